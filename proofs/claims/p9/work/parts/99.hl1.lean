set_option maxHeartbeats 4000000 in
set_option maxRecDepth 100000 in
theorem sX2_doAskingG {f : Nat → Int} {σ : xS} {p q kind lies : Int} {Q : Option xV → xS → Prop} (hp0 : GR σ f) (hp1 : VX f) (hp2 : 0 ≤ p ∧ p ≤ 5) (hp3 : 0 ≤ q ∧ q ≤ 5) (hp4 : 0 ≤ kind ∧ kind ≤ 12) (hp5 : p < f 1) (hp6 : ¬ p = q) (hp7 : f 2 = 0 ∨ f 2 = 1) (hp8 : 0 ≤ f 6 ∧ f 6 < f 1) (hp9 : 1 ≤ f (60 + 13 * p.toNat + kind.toNat)) (hp10 : lies = 0 ∨ lies = 1) (hQ : ∀ r : Int, ∀ σ' : xS, Fr [2, 3, 5, 6, 7, 8, 9, 10, 11, 12, 13] [8, 14, 15, 16] σ σ' → ((GR σ' (askF f p.toNat q.toNat kind.toNat lies) ∧ σ' 0 14 = askF f p.toNat q.toNat kind.toNat lies 4) ∧ r = askR f p.toNat q.toNat kind.toNat lies 3 ∧ ∀ i : Nat, i < 8 → σ' 13 i = askR f p.toNat q.toNat kind.toNat lies i) → Q (some (xvi r)) σ') : xT kX2_doAsking [xvr 0, xvi p, xvi q, xvi kind, xvi lies, xvr 13] σ Q := by
  refine ⟨Nat.le_of_ble_eq_true rfl, fun X hX => ?_⟩
  show X 0 [xvr 0, xvi p, xvi q, xvi kind, xvi lies, xvr 13, xvu, xvu, xvu] σ
  have hF : Fr [2, 3, 5, 6, 7, 8, 9, 10, 11, 12, 13] [8, 14, 15, 16] σ σ := Fr.rf
  refine hX 400 0 _ _ ?_
  obtain ⟨hkp, h4p⟩ := kn_r hp1.1 (p := p.toNat) (k := kind.toNat) (by omega) (by omega)
  have m1 := hp1.1.1.2.1
  refine xMVp (sh := shH) (ci := 2) (τ := [0, 1, 2, 3, 4, 5, 6, 7, 8, 9, 10, 11, 12]) (E := xT kX2_held) (t := 0) (r := [xvi q, xvi kind]) (σ := σ) rfl rfl xbk_sel (fun Q1 hQ1 => sX2_held (σ := xsel [0, 1, 2, 3, 4, 5, 6, 7, 8, 9, 10, 11, 12] σ) (p := q) (kind := kind) hp3 hp4 (fun r1 p1 => hQ1 _ ?_))
  have p1 : r1 = σ 2 (13 * q + kind).toNat := p1
  rw [hp0.vh hp3 hp4] at p1
  refine And.intro (Nat.le_of_ble_eq_true rfl) ?_
  show xw _ _ _ _ _ _ _ _ _ _ [xvr 0, xvi p, xvi q, xvi kind, xvi lies, xvr 13, xvi r1, xvu, xvu] _ _
  have lp_22 : ∀ (_ : Unit), (¬ gvs f q.toNat kind.toNat lies) → X 22 [xvr 0, xvi p, xvi q, xvi kind, xvi lies, xvr 13, xvi r1, xvu, xvu] σ := by
    intro _ hv_22
    have hng : ¬ (0 < f (60 + 13 * q.toNat + kind.toNat) ∧ lies = 0) := hv_22
    refine hX 400 22 _ _ ?_
    refine And.intro (Nat.le_of_ble_eq_true rfl) ?_
    show xw _ _ _ _ _ _ _ _ _ _ [xvr 0, xvi p, xvi q, xvi kind, xvi lies, xvr 13, xvi r1, xvi 0, xvu] _ _
    refine hX 400 25 _ _ ?_
    have lp_164 : ∀ (s1 : xS), (Fr [2, 3, 5, 6, 7, 8, 9, 10, 11, 12, 13] [8, 14, 15, 16] σ s1 ∧ GR s1 (ak1F f p.toNat kind.toNat) ∧ s1 13 0 = p ∧ s1 13 1 = q ∧ s1 13 2 = kind ∧ s1 13 3 = (if gvs f q.toNat kind.toNat lies then f (60 + 13 * q.toNat + kind.toNat) else 0) ∧ s1 13 4 = -1 ∧ s1 13 5 = -1 ∧ s1 13 6 = (if 0 < f (60 + 13 * q.toNat + kind.toNat) ∧ lies = 1 then 1 else 0) ∧ s1 13 7 = sureF f q.toNat kind.toNat) → X 164 [xvr 0, xvi p, xvi q, xvi kind, xvi lies, xvr 13, xvi r1, xvi 0, xvu] s1 := by
      intro s1 hv_164
      obtain ⟨hF, hG, z0, z1, z2, z3, z4, z5, z6, z7⟩ := hv_164
      obtain ⟨hVk, ok, _⟩ := hp1.ak (a := p.toNat) (kind := kind.toNat) (by omega) (by omega) (by omega)
      have ok1 := ok 1 (by omega)
      have ok2 := ok 2 (by omega)
      have ok6 := ok 6 (by omega)
      have okq := ok (60 + 13 * q.toNat + kind.toNat) (by omega)
      obtain ⟨hVm, om, om6, omN⟩ := hp1.akm (a := p.toNat) (b := q.toNat) (kind := kind.toNat) (lies := lies) (by omega) (by omega) (by omega) (by omega) (by omega) (by omega) (by omega)
      have om1 := om 1 (by omega)
      refine hX 400 164 _ _ ?_
      refine And.intro (fun _ => ?_) (fun c4 => absurd (by decide) c4)
      have hgs : ¬ gvs f q.toNat kind.toNat lies := fun z => by
        have a := z.1
        have b := z.2
        omega
      have eM : (akM f p.toNat q.toNat kind.toNat lies) = noF (denF (ak1F f p.toNat kind.toNat) q.toNat kind.toNat) p.toNat kind.toNat := if_neg hgs
      have eN : (akN f p.toNat q.toNat kind.toNat lies) = noN (denF (ak1F f p.toNat kind.toNat) q.toNat kind.toNat) p.toNat kind.toNat := if_neg hgs
      rw [if_neg hgs] at z3
      refine sX2_sayNoG (σ := s1) (f := (ak1F f p.toNat kind.toNat)) (p := p) (q := q) (kind := kind) hG hVk hp2 hp3 hp4 (by omega) (by rw [ok2]; exact hp7) (by omega) (fun r5 σ5 f5 p5 => ?_)
      have hF := hF.tr f5 (by decide) (by decide)
      rw [← eM, ← eN] at p5
      have w3 := (p5.2.2.2.2 3 (by decide) (by decide)).trans z3
      have hGM : GR σ5 (akM f p.toNat q.toNat kind.toNat lies) := p5.1
      have hr8 : r5 = (akN f p.toNat q.toNat kind.toNat lies) := p5.2.1
      have g6 : σ5 0 16 = (akM f p.toNat q.toNat kind.toNat lies) 6 := hGM.n1 (i := 6) (by decide)
      have g1 : σ5 0 1 = (akM f p.toNat q.toNat kind.toNat lies) 1 := hGM.n0 (i := 1) (by decide)
      have w13 : ∀ i : Nat, i < 8 → σ5 13 i = askR f p.toNat q.toNat kind.toNat lies i := by
        intro i hi
        have h8 : i = 0 ∨ i = 1 ∨ i = 2 ∨ i = 3 ∨ i = 4 ∨ i = 5 ∨ i = 6 ∨ i = 7 := by omega
        rcases h8 with rfl | rfl | rfl | rfl | rfl | rfl | rfl | rfl
        · exact (p5.2.2.2.2 0 (by decide) (by decide)).trans (z0.trans (show p = ((p.toNat : Nat) : Int) from by omega))
        · exact (p5.2.2.2.2 1 (by decide) (by decide)).trans (z1.trans (show q = ((q.toNat : Nat) : Int) from by omega))
        · exact (p5.2.2.2.2 2 (by decide) (by decide)).trans (z2.trans (show kind = ((kind.toNat : Nat) : Int) from by omega))
        · exact w3.trans (by show _ = (if gvs f q.toNat kind.toNat lies then f (60 + 13 * q.toNat + kind.toNat) else 0); rw [if_neg hgs])
        · show σ5 13 4 = (if gvs f q.toNat kind.toNat lies then -1 else if denF (ak1F f p.toNat kind.toNat) q.toNat kind.toNat 7 = 0 then -1 else denF (ak1F f p.toNat kind.toNat) q.toNat kind.toNat 8)
          rw [if_neg hgs]
          rw [← z4]; exact p5.2.2.1
        · show σ5 13 5 = (if gvs f q.toNat kind.toNat lies then lyF (gvI (ak1F f p.toNat kind.toNat) p.toNat q.toNat kind.toNat) p.toNat kind.toNat else if denF (ak1F f p.toNat kind.toNat) q.toNat kind.toNat 7 = 0 then -1 else lyF (dcM (up (denF (ak1F f p.toNat kind.toNat) q.toNat kind.toNat) 6 0) p.toNat (noS (denF (ak1F f p.toNat kind.toNat) q.toNat kind.toNat) kind.toNat)) p.toNat (denF (ak1F f p.toNat kind.toNat) q.toNat kind.toNat 8).toNat)
          rw [if_neg hgs]
          have y := p5.2.2.2.1; rw [z5] at y; exact y
        · exact (p5.2.2.2.2 6 (by decide) (by decide)).trans z6
        · exact (p5.2.2.2.2 7 (by decide) (by decide)).trans z7
      refine And.intro (Nat.le_of_ble_eq_true rfl) ?_
      show xw _ _ _ _ _ _ _ _ _ _ [xvr 0, xvi p, xvi q, xvi kind, xvi lies, xvr 13, xvi r1, xvi 0, xvi r5] _ _
      have lp_217 : ∀ (s2 : xS), (Fr [2, 3, 5, 6, 7, 8, 9, 10, 11, 12, 13] [8, 14, 15, 16] σ s2 ∧ (GR s2 (askF f p.toNat q.toNat kind.toNat lies) ∧ s2 0 14 = askF f p.toNat q.toNat kind.toNat lies 4) ∧ ∀ i : Nat, i < 8 → s2 13 i = askR f p.toNat q.toNat kind.toNat lies i) → X 217 [xvr 0, xvi p, xvi q, xvi kind, xvi lies, xvr 13, xvi r1, xvi 0, xvi r5] s2 := by
        intro s2 hv_217
        obtain ⟨hF, hE, hY⟩ := hv_217
        refine hX 400 217 _ _ ?_
        refine And.intro (rfl) (And.intro (⟨by omega, by omega⟩) ?_)
        intro v7 e7 l7 h7
        have e7 : v7 = s2 13 3 := e7
        refine And.intro rfl ?_
        exact hQ _ _ hF ⟨hE, (by have y := hY 3 (by decide); omega), hY⟩
      intro v8 e8 l8 h8
      have e8 : v8 = σ5 0 16 := e8
      intro v9 e9 l9 h9
      have e9 : v9 = σ5 0 1 := e9
      refine And.intro (fun c10 => ?_) (fun c10 => ?_)
      · have hne : ¬ (akM f p.toNat q.toNat kind.toNat lies) 6 = (akM f p.toNat q.toNat kind.toNat lies) 1 := by omega
        refine xMVf (sh := shH) (ci := 2) (τ := [0, 1, 2, 3, 4, 5, 6, 7, 8, 9, 10, 11, 12]) (E := xT kX2_settle) (t := 0) (r := [xvi r5]) (σ := σ5) rfl rfl (fun Q11 hQ11 => sX2_settleG (σ := xsel [0, 1, 2, 3, 4, 5, 6, 7, 8, 9, 10, 11, 12] σ5) (f := (akM f p.toNat q.toNat kind.toNat lies)) (fr := r5) hGM.sel hVm (by omega) (fun _ => by omega) (fun ς11 f11 p11 => hQ11 _ _ ?_))
        replace f11 : Fr [2, 3, 5, 8, 9, 10, 11, 12] [8, 14] σ5 (xbk [0, 1, 2, 3, 4, 5, 6, 7, 8, 9, 10, 11, 12] σ5 ς11) := f11.bk0 (by decide) (by decide) (by decide)
        replace p11 : GR (xbk [0, 1, 2, 3, 4, 5, 6, 7, 8, 9, 10, 11, 12] σ5 ς11) (stF (akM f p.toNat q.toNat kind.toNat lies) r5) ∧ (xbk [0, 1, 2, 3, 4, 5, 6, 7, 8, 9, 10, 11, 12] σ5 ς11) 0 14 = stF (akM f p.toNat q.toNat kind.toNat lies) r5 4 := ⟨p11.1.bk, p11.2⟩
        generalize xbk [0, 1, 2, 3, 4, 5, 6, 7, 8, 9, 10, 11, 12] σ5 ς11 = σ11 at f11 p11 ⊢
        have hF := hF.tr f11 (by decide) (by decide)
        have hend : GR σ11 (askF f p.toNat q.toNat kind.toNat lies) ∧ σ11 0 14 = askF f p.toNat q.toNat kind.toNat lies 4 := by
          rw [askF_m]
          unfold finF
          rw [if_neg hne, ← hr8]
          exact p11
        have y13 : ∀ i : Nat, i < 8 → σ11 13 i = askR f p.toNat q.toNat kind.toNat lies i := fun i hi => (congrFun (f11.1 13 (by decide) (by decide)) i).trans (w13 i hi)
        exact lp_217 σ11 ⟨hF, hend, y13⟩
      · have hF := hF.p (j := 14) (v := (-1)) (by decide)
        exact lp_217 (xput σ5 0 14 (-1)) ⟨hF, (by
              rw [askF_m]
              unfold finF
              rw [if_pos (by omega)]
              exact ⟨(hGM.fr (ts := []) (js := [14]) (Fr.rf.p (by decide))).f4, by rw [up_s]; rfl⟩), w13⟩
    refine And.intro (rfl) (And.intro (⟨by omega, by omega⟩) ?_)
    have hF := hF.pt (t := 13) (j := 0) (v := p) (by decide) (by decide)
    refine And.intro (rfl) (And.intro (⟨by omega, by omega⟩) ?_)
    have hF := hF.pt (t := 13) (j := 1) (v := q) (by decide) (by decide)
    refine And.intro (rfl) (And.intro (⟨by omega, by omega⟩) ?_)
    have hF := hF.pt (t := 13) (j := 2) (v := kind) (by decide) (by decide)
    refine And.intro (fun _ => ?_) (fun c16 => absurd (by decide) c16)
    refine And.intro (rfl) (And.intro (⟨by omega, by omega⟩) ?_)
    have hF := hF.pt (t := 13) (j := 3) (v := 0) (by decide) (by decide)
    refine hX 400 55 _ _ ?_
    refine And.intro (rfl) (And.intro (⟨by omega, by omega⟩) ?_)
    have hF := hF.pt (t := 13) (j := 4) (v := (-1)) (by decide) (by decide)
    refine And.intro (rfl) (And.intro (⟨by omega, by omega⟩) ?_)
    have hF := hF.pt (t := 13) (j := 5) (v := (-1)) (by decide) (by decide)
    refine And.intro (fun c20 => ?_) (fun c20 => ?_)
    · refine And.intro (rfl) (And.intro (⟨by omega, by omega⟩) ?_)
      have hF := hF.pt (t := 13) (j := 6) (v := 0) (by decide) (by decide)
      refine hX 400 85 _ _ ?_
      refine xMVp (sh := shH) (ci := 3) (τ := [0, 1, 2, 3, 4, 5, 6, 7, 8, 9, 10, 11, 12]) (E := xT kX3_sureOf) (t := 9) (r := [xvi q, xvi kind]) (σ := (xput (xput (xput (xput (xput (xput (xput σ 13 0 p) 13 1 q) 13 2 kind) 13 3 0) 13 4 (-1)) 13 5 (-1)) 13 6 0)) rfl rfl xbk_sel (fun Q22 hQ22 => sX3_sureOf (σ := xsel [0, 1, 2, 3, 4, 5, 6, 7, 8, 9, 10, 11, 12] (xput (xput (xput (xput (xput (xput (xput σ 13 0 p) 13 1 q) 13 2 kind) 13 3 0) 13 4 (-1)) 13 5 (-1)) 13 6 0)) (p := q) (kind := kind) hp3 hp4 (fun r22 p22 => hQ22 _ ?_))
      have p22 : r22 = σ 10 (13 * q + kind).toNat := p22
      rw [hp0.vk hp3 hp4] at p22
      refine And.intro (fun c23 => ?_) (fun c23 => ?_)
      · have hGs : GR (xput (xput (xput (xput (xput (xput (xput σ 13 0 p) 13 1 q) 13 2 kind) 13 3 0) 13 4 (-1)) 13 5 (-1)) 13 6 0) f := hp0.fr (ts := [13]) (js := []) (by repeat (first | exact Fr.rf | refine Fr.pt ?_ (by decide) (by decide)))
        refine xMVp (sh := shH) (ci := 3) (τ := [0, 1, 2, 3, 4, 5, 6, 7, 8, 9, 10, 11, 12]) (E := xT kX3_mayBe) (t := 9) (r := [xvi q, xvi kind]) (σ := (xput (xput (xput (xput (xput (xput (xput σ 13 0 p) 13 1 q) 13 2 kind) 13 3 0) 13 4 (-1)) 13 5 (-1)) 13 6 0)) rfl rfl xbk_sel (fun Q24 hQ24 => sX3_mayBeG (σ := xsel [0, 1, 2, 3, 4, 5, 6, 7, 8, 9, 10, 11, 12] (xput (xput (xput (xput (xput (xput (xput σ 13 0 p) 13 1 q) 13 2 kind) 13 3 0) 13 4 (-1)) 13 5 (-1)) 13 6 0)) (f := f) (p := q) (kind := kind) hGs.sel hp3 hp4 (fun r24 p24 => hQ24 _ ?_))
        have p24 : r24 = canF f q.toNat kind := p24
        refine And.intro (fun c25 => ?_) (fun c25 => ?_)
        · refine And.intro (rfl) (And.intro (⟨by omega, by omega⟩) ?_)
          have hF := hF.pt (t := 13) (j := 7) (v := 0) (by decide) (by decide)
          refine hX 400 123 _ _ ?_
          have hGs : GR (xput (xput (xput (xput (xput (xput (xput (xput σ 13 0 p) 13 1 q) 13 2 kind) 13 3 0) 13 4 (-1)) 13 5 (-1)) 13 6 0) 13 7 0) f := hp0.fr (ts := [13]) (js := []) (by repeat (first | exact Fr.rf | refine Fr.pt ?_ (by decide) (by decide)))
          have n5 : σ 0 15 = f 5 := hp0.n1 (i := 5) (by decide)
          have n553 : σ 6 p.toNat = f (553 + p.toNat) := by
            have z := hp0.1 _ _ _ _ (mp_as (j := p.toNat) (by omega))
            omega
          intro v27 e27 l27 h27
          have e27 : v27 = σ 0 15 := e27
          intro z28 t28 e28 l28 h28
          try have w28 : t28 = 0 := by omega
          have hF := hF.p (j := 15) (v := z28) (by decide)
          refine And.intro (rfl) (And.intro (⟨by omega, by omega⟩) ?_)
          intro v30 e30 l30 h30
          have e30 : v30 = σ 6 p.toNat := e30
          intro z31 t31 e31 l31 h31
          try have w31 : t31 = 0 := by omega
          refine And.intro (rfl) (And.intro (⟨by omega, by omega⟩) ?_)
          have hF := hF.pt (t := 6) (j := p.toNat) (v := z31) (by decide) (by decide)
          have hGa : GR (xput (xput (xput (xput (xput (xput (xput (xput (xput (xput σ 13 0 p) 13 1 q) 13 2 kind) 13 3 0) 13 4 (-1)) 13 5 (-1)) 13 6 0) 13 7 0) 0 15 z28) 6 p.toNat z31) (acF f p.toNat) := (hGs.num (i := 5) (t := 0) (j := 15) (c := 0) (v := wr (f 5 + 1)) (w := z28) (by decide) (by unfold wr; omega) (by decide) (by decide)).num (mp_as (j := p.toNat) (by omega)) (v := wr (f (553 + p.toNat) + 1)) (w := z31) (by unfold wr; omega) (by decide) (by omega)
          obtain ⟨hVa, oa⟩ := hp1.ac (a := p.toNat) (by omega)
          have oak := oa (151 + 13 * p.toNat + kind.toNat) (by omega) (by omega)
          refine xMVp (sh := shH) (ci := 3) (τ := [0, 1, 2, 3, 4, 5, 6, 7, 8, 9, 10, 11, 12]) (E := xT kX3_sureOf) (t := 9) (r := [xvi p, xvi kind]) (σ := (xput (xput (xput (xput (xput (xput (xput (xput (xput (xput σ 13 0 p) 13 1 q) 13 2 kind) 13 3 0) 13 4 (-1)) 13 5 (-1)) 13 6 0) 13 7 0) 0 15 z28) 6 p.toNat z31)) rfl rfl xbk_sel (fun Q33 hQ33 => sX3_sureOf (σ := xsel [0, 1, 2, 3, 4, 5, 6, 7, 8, 9, 10, 11, 12] (xput (xput (xput (xput (xput (xput (xput (xput (xput (xput σ 13 0 p) 13 1 q) 13 2 kind) 13 3 0) 13 4 (-1)) 13 5 (-1)) 13 6 0) 13 7 0) 0 15 z28) 6 p.toNat z31)) (p := p) (kind := kind) hp2 hp4 (fun r33 p33 => hQ33 _ ?_))
          have p33 : r33 = (xput (xput (xput (xput (xput (xput (xput (xput (xput (xput σ 13 0 p) 13 1 q) 13 2 kind) 13 3 0) 13 4 (-1)) 13 5 (-1)) 13 6 0) 13 7 0) 0 15 z28) 6 p.toNat z31) 10 (13 * p + kind).toNat := p33
          have p33 := p33.trans ((hGa.vk hp2 hp4).trans oak)
          refine And.intro (fun c34 => ?_) (fun c34 => ?_)
          · exact lp_164 (xput (xput (xput (xput (xput (xput (xput (xput (xput (xput σ 13 0 p) 13 1 q) 13 2 kind) 13 3 0) 13 4 (-1)) 13 5 (-1)) 13 6 0) 13 7 0) 0 15 z28) 6 p.toNat z31) ⟨hF, (by unfold ak1F; rw [if_neg (by omega)]; exact hGa), (show p = p from rfl), (show q = q from rfl), (show kind = kind from rfl), (show 0 = (if gvs f q.toNat kind.toNat lies then f (60 + 13 * q.toNat + kind.toNat) else 0) from (by first | (rw [if_pos (by omega)]; done) | (rw [if_neg (by omega)]; done) | (rw [if_pos (by omega)]; omega) | (rw [if_neg (by omega)]; omega))), (show (-1) = -1 from rfl), (show (-1) = -1 from rfl), (show 0 = (if 0 < f (60 + 13 * q.toNat + kind.toNat) ∧ lies = 1 then 1 else 0) from (by first | (rw [if_pos (by omega)]; done) | (rw [if_neg (by omega)]; done) | (rw [if_pos (by omega)]; omega) | (rw [if_neg (by omega)]; omega))), (show 0 = sureF f q.toNat kind.toNat from (by unfold sureF; rw [show ((kind.toNat : Nat) : Int) = kind from by omega]; first | (rw [if_pos (by omega)]; done) | (rw [if_neg (by omega), if_pos (by omega)]; done) | (rw [if_neg (by omega), if_neg (by omega)]; done)))⟩
          · refine xMVf (sh := shH) (ci := 3) (τ := [0, 1, 2, 3, 4, 5, 6, 7, 8, 9, 10, 11, 12]) (E := xT kX3_reveal) (t := 9) (r := [xvi p, xvi kind]) (σ := (xput (xput (xput (xput (xput (xput (xput (xput (xput (xput σ 13 0 p) 13 1 q) 13 2 kind) 13 3 0) 13 4 (-1)) 13 5 (-1)) 13 6 0) 13 7 0) 0 15 z28) 6 p.toNat z31)) rfl rfl (fun Q35 hQ35 => sX3_revealG (σ := xsel [0, 1, 2, 3, 4, 5, 6, 7, 8, 9, 10, 11, 12] (xput (xput (xput (xput (xput (xput (xput (xput (xput (xput σ 13 0 p) 13 1 q) 13 2 kind) 13 3 0) 13 4 (-1)) 13 5 (-1)) 13 6 0) 13 7 0) 0 15 z28) 6 p.toNat z31)) (f := acF f p.toNat) (p := p) (kind := kind) hp2 hp4 hGa.sel (by omega) (fun ς35 f35 p35 => hQ35 _ _ ?_))
            replace f35 : Fr [9, 10, 11, 12] [] (xput (xput (xput (xput (xput (xput (xput (xput (xput (xput σ 13 0 p) 13 1 q) 13 2 kind) 13 3 0) 13 4 (-1)) 13 5 (-1)) 13 6 0) 13 7 0) 0 15 z28) 6 p.toNat z31) (xbk [0, 1, 2, 3, 4, 5, 6, 7, 8, 9, 10, 11, 12] (xput (xput (xput (xput (xput (xput (xput (xput (xput (xput σ 13 0 p) 13 1 q) 13 2 kind) 13 3 0) 13 4 (-1)) 13 5 (-1)) 13 6 0) 13 7 0) 0 15 z28) 6 p.toNat z31) ς35) := f35.bk0 (by decide) (by decide) (by decide)
            replace p35 : GR (xbk [0, 1, 2, 3, 4, 5, 6, 7, 8, 9, 10, 11, 12] (xput (xput (xput (xput (xput (xput (xput (xput (xput (xput σ 13 0 p) 13 1 q) 13 2 kind) 13 3 0) 13 4 (-1)) 13 5 (-1)) 13 6 0) 13 7 0) 0 15 z28) 6 p.toNat z31) ς35) (learnF (acF f p.toNat) p.toNat kind) := p35.bk
            generalize xbk [0, 1, 2, 3, 4, 5, 6, 7, 8, 9, 10, 11, 12] (xput (xput (xput (xput (xput (xput (xput (xput (xput (xput σ 13 0 p) 13 1 q) 13 2 kind) 13 3 0) 13 4 (-1)) 13 5 (-1)) 13 6 0) 13 7 0) 0 15 z28) 6 p.toNat z31) ς35 = σ35 at f35 p35 ⊢
            have hF := hF.tr f35 (by decide) (by decide)
            have x13 : ∀ j, σ35 13 j = (xput (xput (xput (xput (xput (xput (xput (xput (xput (xput σ 13 0 p) 13 1 q) 13 2 kind) 13 3 0) 13 4 (-1)) 13 5 (-1)) 13 6 0) 13 7 0) 0 15 z28) 6 p.toNat z31) 13 j := fun j => congrFun (f35.1 13 (by decide) (by decide)) j
            exact lp_164 σ35 ⟨hF, (by unfold ak1F; rw [if_pos (by omega), show ((kind.toNat : Nat) : Int) = kind from by omega]; exact p35), (x13 0).trans (show p = p from rfl), (x13 1).trans (show q = q from rfl), (x13 2).trans (show kind = kind from rfl), (x13 3).trans (show 0 = (if gvs f q.toNat kind.toNat lies then f (60 + 13 * q.toNat + kind.toNat) else 0) from (by first | (rw [if_pos (by omega)]; done) | (rw [if_neg (by omega)]; done) | (rw [if_pos (by omega)]; omega) | (rw [if_neg (by omega)]; omega))), (x13 4).trans (show (-1) = -1 from rfl), (x13 5).trans (show (-1) = -1 from rfl), (x13 6).trans (show 0 = (if 0 < f (60 + 13 * q.toNat + kind.toNat) ∧ lies = 1 then 1 else 0) from (by first | (rw [if_pos (by omega)]; done) | (rw [if_neg (by omega)]; done) | (rw [if_pos (by omega)]; omega) | (rw [if_neg (by omega)]; omega))), (x13 7).trans (show 0 = sureF f q.toNat kind.toNat from (by unfold sureF; rw [show ((kind.toNat : Nat) : Int) = kind from by omega]; first | (rw [if_pos (by omega)]; done) | (rw [if_neg (by omega), if_pos (by omega)]; done) | (rw [if_neg (by omega), if_neg (by omega)]; done)))⟩
        · refine And.intro (rfl) (And.intro (⟨by omega, by omega⟩) ?_)
          have hF := hF.pt (t := 13) (j := 7) (v := 1) (by decide) (by decide)
          refine hX 400 123 _ _ ?_
          have hGs : GR (xput (xput (xput (xput (xput (xput (xput (xput σ 13 0 p) 13 1 q) 13 2 kind) 13 3 0) 13 4 (-1)) 13 5 (-1)) 13 6 0) 13 7 1) f := hp0.fr (ts := [13]) (js := []) (by repeat (first | exact Fr.rf | refine Fr.pt ?_ (by decide) (by decide)))
          have n5 : σ 0 15 = f 5 := hp0.n1 (i := 5) (by decide)
          have n553 : σ 6 p.toNat = f (553 + p.toNat) := by
            have z := hp0.1 _ _ _ _ (mp_as (j := p.toNat) (by omega))
            omega
          intro v37 e37 l37 h37
          have e37 : v37 = σ 0 15 := e37
          intro z38 t38 e38 l38 h38
          try have w38 : t38 = 0 := by omega
          have hF := hF.p (j := 15) (v := z38) (by decide)
          refine And.intro (rfl) (And.intro (⟨by omega, by omega⟩) ?_)
          intro v40 e40 l40 h40
          have e40 : v40 = σ 6 p.toNat := e40
          intro z41 t41 e41 l41 h41
          try have w41 : t41 = 0 := by omega
          refine And.intro (rfl) (And.intro (⟨by omega, by omega⟩) ?_)
          have hF := hF.pt (t := 6) (j := p.toNat) (v := z41) (by decide) (by decide)
          have hGa : GR (xput (xput (xput (xput (xput (xput (xput (xput (xput (xput σ 13 0 p) 13 1 q) 13 2 kind) 13 3 0) 13 4 (-1)) 13 5 (-1)) 13 6 0) 13 7 1) 0 15 z38) 6 p.toNat z41) (acF f p.toNat) := (hGs.num (i := 5) (t := 0) (j := 15) (c := 0) (v := wr (f 5 + 1)) (w := z38) (by decide) (by unfold wr; omega) (by decide) (by decide)).num (mp_as (j := p.toNat) (by omega)) (v := wr (f (553 + p.toNat) + 1)) (w := z41) (by unfold wr; omega) (by decide) (by omega)
          obtain ⟨hVa, oa⟩ := hp1.ac (a := p.toNat) (by omega)
          have oak := oa (151 + 13 * p.toNat + kind.toNat) (by omega) (by omega)
          refine xMVp (sh := shH) (ci := 3) (τ := [0, 1, 2, 3, 4, 5, 6, 7, 8, 9, 10, 11, 12]) (E := xT kX3_sureOf) (t := 9) (r := [xvi p, xvi kind]) (σ := (xput (xput (xput (xput (xput (xput (xput (xput (xput (xput σ 13 0 p) 13 1 q) 13 2 kind) 13 3 0) 13 4 (-1)) 13 5 (-1)) 13 6 0) 13 7 1) 0 15 z38) 6 p.toNat z41)) rfl rfl xbk_sel (fun Q43 hQ43 => sX3_sureOf (σ := xsel [0, 1, 2, 3, 4, 5, 6, 7, 8, 9, 10, 11, 12] (xput (xput (xput (xput (xput (xput (xput (xput (xput (xput σ 13 0 p) 13 1 q) 13 2 kind) 13 3 0) 13 4 (-1)) 13 5 (-1)) 13 6 0) 13 7 1) 0 15 z38) 6 p.toNat z41)) (p := p) (kind := kind) hp2 hp4 (fun r43 p43 => hQ43 _ ?_))
          have p43 : r43 = (xput (xput (xput (xput (xput (xput (xput (xput (xput (xput σ 13 0 p) 13 1 q) 13 2 kind) 13 3 0) 13 4 (-1)) 13 5 (-1)) 13 6 0) 13 7 1) 0 15 z38) 6 p.toNat z41) 10 (13 * p + kind).toNat := p43
          have p43 := p43.trans ((hGa.vk hp2 hp4).trans oak)
          refine And.intro (fun c44 => ?_) (fun c44 => ?_)
          · exact lp_164 (xput (xput (xput (xput (xput (xput (xput (xput (xput (xput σ 13 0 p) 13 1 q) 13 2 kind) 13 3 0) 13 4 (-1)) 13 5 (-1)) 13 6 0) 13 7 1) 0 15 z38) 6 p.toNat z41) ⟨hF, (by unfold ak1F; rw [if_neg (by omega)]; exact hGa), (show p = p from rfl), (show q = q from rfl), (show kind = kind from rfl), (show 0 = (if gvs f q.toNat kind.toNat lies then f (60 + 13 * q.toNat + kind.toNat) else 0) from (by first | (rw [if_pos (by omega)]; done) | (rw [if_neg (by omega)]; done) | (rw [if_pos (by omega)]; omega) | (rw [if_neg (by omega)]; omega))), (show (-1) = -1 from rfl), (show (-1) = -1 from rfl), (show 0 = (if 0 < f (60 + 13 * q.toNat + kind.toNat) ∧ lies = 1 then 1 else 0) from (by first | (rw [if_pos (by omega)]; done) | (rw [if_neg (by omega)]; done) | (rw [if_pos (by omega)]; omega) | (rw [if_neg (by omega)]; omega))), (show 1 = sureF f q.toNat kind.toNat from (by unfold sureF; rw [show ((kind.toNat : Nat) : Int) = kind from by omega]; first | (rw [if_pos (by omega)]; done) | (rw [if_neg (by omega), if_pos (by omega)]; done) | (rw [if_neg (by omega), if_neg (by omega)]; done)))⟩
          · refine xMVf (sh := shH) (ci := 3) (τ := [0, 1, 2, 3, 4, 5, 6, 7, 8, 9, 10, 11, 12]) (E := xT kX3_reveal) (t := 9) (r := [xvi p, xvi kind]) (σ := (xput (xput (xput (xput (xput (xput (xput (xput (xput (xput σ 13 0 p) 13 1 q) 13 2 kind) 13 3 0) 13 4 (-1)) 13 5 (-1)) 13 6 0) 13 7 1) 0 15 z38) 6 p.toNat z41)) rfl rfl (fun Q45 hQ45 => sX3_revealG (σ := xsel [0, 1, 2, 3, 4, 5, 6, 7, 8, 9, 10, 11, 12] (xput (xput (xput (xput (xput (xput (xput (xput (xput (xput σ 13 0 p) 13 1 q) 13 2 kind) 13 3 0) 13 4 (-1)) 13 5 (-1)) 13 6 0) 13 7 1) 0 15 z38) 6 p.toNat z41)) (f := acF f p.toNat) (p := p) (kind := kind) hp2 hp4 hGa.sel (by omega) (fun ς45 f45 p45 => hQ45 _ _ ?_))
            replace f45 : Fr [9, 10, 11, 12] [] (xput (xput (xput (xput (xput (xput (xput (xput (xput (xput σ 13 0 p) 13 1 q) 13 2 kind) 13 3 0) 13 4 (-1)) 13 5 (-1)) 13 6 0) 13 7 1) 0 15 z38) 6 p.toNat z41) (xbk [0, 1, 2, 3, 4, 5, 6, 7, 8, 9, 10, 11, 12] (xput (xput (xput (xput (xput (xput (xput (xput (xput (xput σ 13 0 p) 13 1 q) 13 2 kind) 13 3 0) 13 4 (-1)) 13 5 (-1)) 13 6 0) 13 7 1) 0 15 z38) 6 p.toNat z41) ς45) := f45.bk0 (by decide) (by decide) (by decide)
            replace p45 : GR (xbk [0, 1, 2, 3, 4, 5, 6, 7, 8, 9, 10, 11, 12] (xput (xput (xput (xput (xput (xput (xput (xput (xput (xput σ 13 0 p) 13 1 q) 13 2 kind) 13 3 0) 13 4 (-1)) 13 5 (-1)) 13 6 0) 13 7 1) 0 15 z38) 6 p.toNat z41) ς45) (learnF (acF f p.toNat) p.toNat kind) := p45.bk
            generalize xbk [0, 1, 2, 3, 4, 5, 6, 7, 8, 9, 10, 11, 12] (xput (xput (xput (xput (xput (xput (xput (xput (xput (xput σ 13 0 p) 13 1 q) 13 2 kind) 13 3 0) 13 4 (-1)) 13 5 (-1)) 13 6 0) 13 7 1) 0 15 z38) 6 p.toNat z41) ς45 = σ45 at f45 p45 ⊢
            have hF := hF.tr f45 (by decide) (by decide)
            have x13 : ∀ j, σ45 13 j = (xput (xput (xput (xput (xput (xput (xput (xput (xput (xput σ 13 0 p) 13 1 q) 13 2 kind) 13 3 0) 13 4 (-1)) 13 5 (-1)) 13 6 0) 13 7 1) 0 15 z38) 6 p.toNat z41) 13 j := fun j => congrFun (f45.1 13 (by decide) (by decide)) j
            exact lp_164 σ45 ⟨hF, (by unfold ak1F; rw [if_pos (by omega), show ((kind.toNat : Nat) : Int) = kind from by omega]; exact p45), (x13 0).trans (show p = p from rfl), (x13 1).trans (show q = q from rfl), (x13 2).trans (show kind = kind from rfl), (x13 3).trans (show 0 = (if gvs f q.toNat kind.toNat lies then f (60 + 13 * q.toNat + kind.toNat) else 0) from (by first | (rw [if_pos (by omega)]; done) | (rw [if_neg (by omega)]; done) | (rw [if_pos (by omega)]; omega) | (rw [if_neg (by omega)]; omega))), (x13 4).trans (show (-1) = -1 from rfl), (x13 5).trans (show (-1) = -1 from rfl), (x13 6).trans (show 0 = (if 0 < f (60 + 13 * q.toNat + kind.toNat) ∧ lies = 1 then 1 else 0) from (by first | (rw [if_pos (by omega)]; done) | (rw [if_neg (by omega)]; done) | (rw [if_pos (by omega)]; omega) | (rw [if_neg (by omega)]; omega))), (x13 7).trans (show 1 = sureF f q.toNat kind.toNat from (by unfold sureF; rw [show ((kind.toNat : Nat) : Int) = kind from by omega]; first | (rw [if_pos (by omega)]; done) | (rw [if_neg (by omega), if_pos (by omega)]; done) | (rw [if_neg (by omega), if_neg (by omega)]; done)))⟩
      · refine And.intro (rfl) (And.intro (⟨by omega, by omega⟩) ?_)
        have hF := hF.pt (t := 13) (j := 7) (v := 2) (by decide) (by decide)
        refine hX 400 123 _ _ ?_
        have hGs : GR (xput (xput (xput (xput (xput (xput (xput (xput σ 13 0 p) 13 1 q) 13 2 kind) 13 3 0) 13 4 (-1)) 13 5 (-1)) 13 6 0) 13 7 2) f := hp0.fr (ts := [13]) (js := []) (by repeat (first | exact Fr.rf | refine Fr.pt ?_ (by decide) (by decide)))
        have n5 : σ 0 15 = f 5 := hp0.n1 (i := 5) (by decide)
        have n553 : σ 6 p.toNat = f (553 + p.toNat) := by
          have z := hp0.1 _ _ _ _ (mp_as (j := p.toNat) (by omega))
          omega
        intro v47 e47 l47 h47
        have e47 : v47 = σ 0 15 := e47
        intro z48 t48 e48 l48 h48
        try have w48 : t48 = 0 := by omega
        have hF := hF.p (j := 15) (v := z48) (by decide)
        refine And.intro (rfl) (And.intro (⟨by omega, by omega⟩) ?_)
        intro v50 e50 l50 h50
        have e50 : v50 = σ 6 p.toNat := e50
        intro z51 t51 e51 l51 h51
        try have w51 : t51 = 0 := by omega
        refine And.intro (rfl) (And.intro (⟨by omega, by omega⟩) ?_)
        have hF := hF.pt (t := 6) (j := p.toNat) (v := z51) (by decide) (by decide)
        have hGa : GR (xput (xput (xput (xput (xput (xput (xput (xput (xput (xput σ 13 0 p) 13 1 q) 13 2 kind) 13 3 0) 13 4 (-1)) 13 5 (-1)) 13 6 0) 13 7 2) 0 15 z48) 6 p.toNat z51) (acF f p.toNat) := (hGs.num (i := 5) (t := 0) (j := 15) (c := 0) (v := wr (f 5 + 1)) (w := z48) (by decide) (by unfold wr; omega) (by decide) (by decide)).num (mp_as (j := p.toNat) (by omega)) (v := wr (f (553 + p.toNat) + 1)) (w := z51) (by unfold wr; omega) (by decide) (by omega)
        obtain ⟨hVa, oa⟩ := hp1.ac (a := p.toNat) (by omega)
        have oak := oa (151 + 13 * p.toNat + kind.toNat) (by omega) (by omega)
        refine xMVp (sh := shH) (ci := 3) (τ := [0, 1, 2, 3, 4, 5, 6, 7, 8, 9, 10, 11, 12]) (E := xT kX3_sureOf) (t := 9) (r := [xvi p, xvi kind]) (σ := (xput (xput (xput (xput (xput (xput (xput (xput (xput (xput σ 13 0 p) 13 1 q) 13 2 kind) 13 3 0) 13 4 (-1)) 13 5 (-1)) 13 6 0) 13 7 2) 0 15 z48) 6 p.toNat z51)) rfl rfl xbk_sel (fun Q53 hQ53 => sX3_sureOf (σ := xsel [0, 1, 2, 3, 4, 5, 6, 7, 8, 9, 10, 11, 12] (xput (xput (xput (xput (xput (xput (xput (xput (xput (xput σ 13 0 p) 13 1 q) 13 2 kind) 13 3 0) 13 4 (-1)) 13 5 (-1)) 13 6 0) 13 7 2) 0 15 z48) 6 p.toNat z51)) (p := p) (kind := kind) hp2 hp4 (fun r53 p53 => hQ53 _ ?_))
        have p53 : r53 = (xput (xput (xput (xput (xput (xput (xput (xput (xput (xput σ 13 0 p) 13 1 q) 13 2 kind) 13 3 0) 13 4 (-1)) 13 5 (-1)) 13 6 0) 13 7 2) 0 15 z48) 6 p.toNat z51) 10 (13 * p + kind).toNat := p53
        have p53 := p53.trans ((hGa.vk hp2 hp4).trans oak)
        refine And.intro (fun c54 => ?_) (fun c54 => ?_)
        · exact lp_164 (xput (xput (xput (xput (xput (xput (xput (xput (xput (xput σ 13 0 p) 13 1 q) 13 2 kind) 13 3 0) 13 4 (-1)) 13 5 (-1)) 13 6 0) 13 7 2) 0 15 z48) 6 p.toNat z51) ⟨hF, (by unfold ak1F; rw [if_neg (by omega)]; exact hGa), (show p = p from rfl), (show q = q from rfl), (show kind = kind from rfl), (show 0 = (if gvs f q.toNat kind.toNat lies then f (60 + 13 * q.toNat + kind.toNat) else 0) from (by first | (rw [if_pos (by omega)]; done) | (rw [if_neg (by omega)]; done) | (rw [if_pos (by omega)]; omega) | (rw [if_neg (by omega)]; omega))), (show (-1) = -1 from rfl), (show (-1) = -1 from rfl), (show 0 = (if 0 < f (60 + 13 * q.toNat + kind.toNat) ∧ lies = 1 then 1 else 0) from (by first | (rw [if_pos (by omega)]; done) | (rw [if_neg (by omega)]; done) | (rw [if_pos (by omega)]; omega) | (rw [if_neg (by omega)]; omega))), (show 2 = sureF f q.toNat kind.toNat from (by unfold sureF; rw [show ((kind.toNat : Nat) : Int) = kind from by omega]; first | (rw [if_pos (by omega)]; done) | (rw [if_neg (by omega), if_pos (by omega)]; done) | (rw [if_neg (by omega), if_neg (by omega)]; done)))⟩
        · refine xMVf (sh := shH) (ci := 3) (τ := [0, 1, 2, 3, 4, 5, 6, 7, 8, 9, 10, 11, 12]) (E := xT kX3_reveal) (t := 9) (r := [xvi p, xvi kind]) (σ := (xput (xput (xput (xput (xput (xput (xput (xput (xput (xput σ 13 0 p) 13 1 q) 13 2 kind) 13 3 0) 13 4 (-1)) 13 5 (-1)) 13 6 0) 13 7 2) 0 15 z48) 6 p.toNat z51)) rfl rfl (fun Q55 hQ55 => sX3_revealG (σ := xsel [0, 1, 2, 3, 4, 5, 6, 7, 8, 9, 10, 11, 12] (xput (xput (xput (xput (xput (xput (xput (xput (xput (xput σ 13 0 p) 13 1 q) 13 2 kind) 13 3 0) 13 4 (-1)) 13 5 (-1)) 13 6 0) 13 7 2) 0 15 z48) 6 p.toNat z51)) (f := acF f p.toNat) (p := p) (kind := kind) hp2 hp4 hGa.sel (by omega) (fun ς55 f55 p55 => hQ55 _ _ ?_))
          replace f55 : Fr [9, 10, 11, 12] [] (xput (xput (xput (xput (xput (xput (xput (xput (xput (xput σ 13 0 p) 13 1 q) 13 2 kind) 13 3 0) 13 4 (-1)) 13 5 (-1)) 13 6 0) 13 7 2) 0 15 z48) 6 p.toNat z51) (xbk [0, 1, 2, 3, 4, 5, 6, 7, 8, 9, 10, 11, 12] (xput (xput (xput (xput (xput (xput (xput (xput (xput (xput σ 13 0 p) 13 1 q) 13 2 kind) 13 3 0) 13 4 (-1)) 13 5 (-1)) 13 6 0) 13 7 2) 0 15 z48) 6 p.toNat z51) ς55) := f55.bk0 (by decide) (by decide) (by decide)
          replace p55 : GR (xbk [0, 1, 2, 3, 4, 5, 6, 7, 8, 9, 10, 11, 12] (xput (xput (xput (xput (xput (xput (xput (xput (xput (xput σ 13 0 p) 13 1 q) 13 2 kind) 13 3 0) 13 4 (-1)) 13 5 (-1)) 13 6 0) 13 7 2) 0 15 z48) 6 p.toNat z51) ς55) (learnF (acF f p.toNat) p.toNat kind) := p55.bk
          generalize xbk [0, 1, 2, 3, 4, 5, 6, 7, 8, 9, 10, 11, 12] (xput (xput (xput (xput (xput (xput (xput (xput (xput (xput σ 13 0 p) 13 1 q) 13 2 kind) 13 3 0) 13 4 (-1)) 13 5 (-1)) 13 6 0) 13 7 2) 0 15 z48) 6 p.toNat z51) ς55 = σ55 at f55 p55 ⊢
          have hF := hF.tr f55 (by decide) (by decide)
          have x13 : ∀ j, σ55 13 j = (xput (xput (xput (xput (xput (xput (xput (xput (xput (xput σ 13 0 p) 13 1 q) 13 2 kind) 13 3 0) 13 4 (-1)) 13 5 (-1)) 13 6 0) 13 7 2) 0 15 z48) 6 p.toNat z51) 13 j := fun j => congrFun (f55.1 13 (by decide) (by decide)) j
          exact lp_164 σ55 ⟨hF, (by unfold ak1F; rw [if_pos (by omega), show ((kind.toNat : Nat) : Int) = kind from by omega]; exact p55), (x13 0).trans (show p = p from rfl), (x13 1).trans (show q = q from rfl), (x13 2).trans (show kind = kind from rfl), (x13 3).trans (show 0 = (if gvs f q.toNat kind.toNat lies then f (60 + 13 * q.toNat + kind.toNat) else 0) from (by first | (rw [if_pos (by omega)]; done) | (rw [if_neg (by omega)]; done) | (rw [if_pos (by omega)]; omega) | (rw [if_neg (by omega)]; omega))), (x13 4).trans (show (-1) = -1 from rfl), (x13 5).trans (show (-1) = -1 from rfl), (x13 6).trans (show 0 = (if 0 < f (60 + 13 * q.toNat + kind.toNat) ∧ lies = 1 then 1 else 0) from (by first | (rw [if_pos (by omega)]; done) | (rw [if_neg (by omega)]; done) | (rw [if_pos (by omega)]; omega) | (rw [if_neg (by omega)]; omega))), (x13 7).trans (show 2 = sureF f q.toNat kind.toNat from (by unfold sureF; rw [show ((kind.toNat : Nat) : Int) = kind from by omega]; first | (rw [if_pos (by omega)]; done) | (rw [if_neg (by omega), if_pos (by omega)]; done) | (rw [if_neg (by omega), if_neg (by omega)]; done)))⟩
    · refine And.intro (fun c56 => ?_) (fun c56 => ?_)
      · refine And.intro (rfl) (And.intro (⟨by omega, by omega⟩) ?_)
        have hF := hF.pt (t := 13) (j := 6) (v := 0) (by decide) (by decide)
        refine hX 400 85 _ _ ?_
        refine xMVp (sh := shH) (ci := 3) (τ := [0, 1, 2, 3, 4, 5, 6, 7, 8, 9, 10, 11, 12]) (E := xT kX3_sureOf) (t := 9) (r := [xvi q, xvi kind]) (σ := (xput (xput (xput (xput (xput (xput (xput σ 13 0 p) 13 1 q) 13 2 kind) 13 3 0) 13 4 (-1)) 13 5 (-1)) 13 6 0)) rfl rfl xbk_sel (fun Q58 hQ58 => sX3_sureOf (σ := xsel [0, 1, 2, 3, 4, 5, 6, 7, 8, 9, 10, 11, 12] (xput (xput (xput (xput (xput (xput (xput σ 13 0 p) 13 1 q) 13 2 kind) 13 3 0) 13 4 (-1)) 13 5 (-1)) 13 6 0)) (p := q) (kind := kind) hp3 hp4 (fun r58 p58 => hQ58 _ ?_))
        have p58 : r58 = σ 10 (13 * q + kind).toNat := p58
        rw [hp0.vk hp3 hp4] at p58
        refine And.intro (fun c59 => ?_) (fun c59 => ?_)
        · have hGs : GR (xput (xput (xput (xput (xput (xput (xput σ 13 0 p) 13 1 q) 13 2 kind) 13 3 0) 13 4 (-1)) 13 5 (-1)) 13 6 0) f := hp0.fr (ts := [13]) (js := []) (by repeat (first | exact Fr.rf | refine Fr.pt ?_ (by decide) (by decide)))
          refine xMVp (sh := shH) (ci := 3) (τ := [0, 1, 2, 3, 4, 5, 6, 7, 8, 9, 10, 11, 12]) (E := xT kX3_mayBe) (t := 9) (r := [xvi q, xvi kind]) (σ := (xput (xput (xput (xput (xput (xput (xput σ 13 0 p) 13 1 q) 13 2 kind) 13 3 0) 13 4 (-1)) 13 5 (-1)) 13 6 0)) rfl rfl xbk_sel (fun Q60 hQ60 => sX3_mayBeG (σ := xsel [0, 1, 2, 3, 4, 5, 6, 7, 8, 9, 10, 11, 12] (xput (xput (xput (xput (xput (xput (xput σ 13 0 p) 13 1 q) 13 2 kind) 13 3 0) 13 4 (-1)) 13 5 (-1)) 13 6 0)) (f := f) (p := q) (kind := kind) hGs.sel hp3 hp4 (fun r60 p60 => hQ60 _ ?_))
          have p60 : r60 = canF f q.toNat kind := p60
          refine And.intro (fun c61 => ?_) (fun c61 => ?_)
          · refine And.intro (rfl) (And.intro (⟨by omega, by omega⟩) ?_)
            have hF := hF.pt (t := 13) (j := 7) (v := 0) (by decide) (by decide)
            refine hX 400 123 _ _ ?_
            have hGs : GR (xput (xput (xput (xput (xput (xput (xput (xput σ 13 0 p) 13 1 q) 13 2 kind) 13 3 0) 13 4 (-1)) 13 5 (-1)) 13 6 0) 13 7 0) f := hp0.fr (ts := [13]) (js := []) (by repeat (first | exact Fr.rf | refine Fr.pt ?_ (by decide) (by decide)))
            have n5 : σ 0 15 = f 5 := hp0.n1 (i := 5) (by decide)
            have n553 : σ 6 p.toNat = f (553 + p.toNat) := by
              have z := hp0.1 _ _ _ _ (mp_as (j := p.toNat) (by omega))
              omega
            intro v63 e63 l63 h63
            have e63 : v63 = σ 0 15 := e63
            intro z64 t64 e64 l64 h64
            try have w64 : t64 = 0 := by omega
            have hF := hF.p (j := 15) (v := z64) (by decide)
            refine And.intro (rfl) (And.intro (⟨by omega, by omega⟩) ?_)
            intro v66 e66 l66 h66
            have e66 : v66 = σ 6 p.toNat := e66
            intro z67 t67 e67 l67 h67
            try have w67 : t67 = 0 := by omega
            refine And.intro (rfl) (And.intro (⟨by omega, by omega⟩) ?_)
            have hF := hF.pt (t := 6) (j := p.toNat) (v := z67) (by decide) (by decide)
            have hGa : GR (xput (xput (xput (xput (xput (xput (xput (xput (xput (xput σ 13 0 p) 13 1 q) 13 2 kind) 13 3 0) 13 4 (-1)) 13 5 (-1)) 13 6 0) 13 7 0) 0 15 z64) 6 p.toNat z67) (acF f p.toNat) := (hGs.num (i := 5) (t := 0) (j := 15) (c := 0) (v := wr (f 5 + 1)) (w := z64) (by decide) (by unfold wr; omega) (by decide) (by decide)).num (mp_as (j := p.toNat) (by omega)) (v := wr (f (553 + p.toNat) + 1)) (w := z67) (by unfold wr; omega) (by decide) (by omega)
            obtain ⟨hVa, oa⟩ := hp1.ac (a := p.toNat) (by omega)
            have oak := oa (151 + 13 * p.toNat + kind.toNat) (by omega) (by omega)
            refine xMVp (sh := shH) (ci := 3) (τ := [0, 1, 2, 3, 4, 5, 6, 7, 8, 9, 10, 11, 12]) (E := xT kX3_sureOf) (t := 9) (r := [xvi p, xvi kind]) (σ := (xput (xput (xput (xput (xput (xput (xput (xput (xput (xput σ 13 0 p) 13 1 q) 13 2 kind) 13 3 0) 13 4 (-1)) 13 5 (-1)) 13 6 0) 13 7 0) 0 15 z64) 6 p.toNat z67)) rfl rfl xbk_sel (fun Q69 hQ69 => sX3_sureOf (σ := xsel [0, 1, 2, 3, 4, 5, 6, 7, 8, 9, 10, 11, 12] (xput (xput (xput (xput (xput (xput (xput (xput (xput (xput σ 13 0 p) 13 1 q) 13 2 kind) 13 3 0) 13 4 (-1)) 13 5 (-1)) 13 6 0) 13 7 0) 0 15 z64) 6 p.toNat z67)) (p := p) (kind := kind) hp2 hp4 (fun r69 p69 => hQ69 _ ?_))
            have p69 : r69 = (xput (xput (xput (xput (xput (xput (xput (xput (xput (xput σ 13 0 p) 13 1 q) 13 2 kind) 13 3 0) 13 4 (-1)) 13 5 (-1)) 13 6 0) 13 7 0) 0 15 z64) 6 p.toNat z67) 10 (13 * p + kind).toNat := p69
            have p69 := p69.trans ((hGa.vk hp2 hp4).trans oak)
            refine And.intro (fun c70 => ?_) (fun c70 => ?_)
            · exact lp_164 (xput (xput (xput (xput (xput (xput (xput (xput (xput (xput σ 13 0 p) 13 1 q) 13 2 kind) 13 3 0) 13 4 (-1)) 13 5 (-1)) 13 6 0) 13 7 0) 0 15 z64) 6 p.toNat z67) ⟨hF, (by unfold ak1F; rw [if_neg (by omega)]; exact hGa), (show p = p from rfl), (show q = q from rfl), (show kind = kind from rfl), (show 0 = (if gvs f q.toNat kind.toNat lies then f (60 + 13 * q.toNat + kind.toNat) else 0) from (by first | (rw [if_pos (by omega)]; done) | (rw [if_neg (by omega)]; done) | (rw [if_pos (by omega)]; omega) | (rw [if_neg (by omega)]; omega))), (show (-1) = -1 from rfl), (show (-1) = -1 from rfl), (show 0 = (if 0 < f (60 + 13 * q.toNat + kind.toNat) ∧ lies = 1 then 1 else 0) from (by first | (rw [if_pos (by omega)]; done) | (rw [if_neg (by omega)]; done) | (rw [if_pos (by omega)]; omega) | (rw [if_neg (by omega)]; omega))), (show 0 = sureF f q.toNat kind.toNat from (by unfold sureF; rw [show ((kind.toNat : Nat) : Int) = kind from by omega]; first | (rw [if_pos (by omega)]; done) | (rw [if_neg (by omega), if_pos (by omega)]; done) | (rw [if_neg (by omega), if_neg (by omega)]; done)))⟩
            · refine xMVf (sh := shH) (ci := 3) (τ := [0, 1, 2, 3, 4, 5, 6, 7, 8, 9, 10, 11, 12]) (E := xT kX3_reveal) (t := 9) (r := [xvi p, xvi kind]) (σ := (xput (xput (xput (xput (xput (xput (xput (xput (xput (xput σ 13 0 p) 13 1 q) 13 2 kind) 13 3 0) 13 4 (-1)) 13 5 (-1)) 13 6 0) 13 7 0) 0 15 z64) 6 p.toNat z67)) rfl rfl (fun Q71 hQ71 => sX3_revealG (σ := xsel [0, 1, 2, 3, 4, 5, 6, 7, 8, 9, 10, 11, 12] (xput (xput (xput (xput (xput (xput (xput (xput (xput (xput σ 13 0 p) 13 1 q) 13 2 kind) 13 3 0) 13 4 (-1)) 13 5 (-1)) 13 6 0) 13 7 0) 0 15 z64) 6 p.toNat z67)) (f := acF f p.toNat) (p := p) (kind := kind) hp2 hp4 hGa.sel (by omega) (fun ς71 f71 p71 => hQ71 _ _ ?_))
              replace f71 : Fr [9, 10, 11, 12] [] (xput (xput (xput (xput (xput (xput (xput (xput (xput (xput σ 13 0 p) 13 1 q) 13 2 kind) 13 3 0) 13 4 (-1)) 13 5 (-1)) 13 6 0) 13 7 0) 0 15 z64) 6 p.toNat z67) (xbk [0, 1, 2, 3, 4, 5, 6, 7, 8, 9, 10, 11, 12] (xput (xput (xput (xput (xput (xput (xput (xput (xput (xput σ 13 0 p) 13 1 q) 13 2 kind) 13 3 0) 13 4 (-1)) 13 5 (-1)) 13 6 0) 13 7 0) 0 15 z64) 6 p.toNat z67) ς71) := f71.bk0 (by decide) (by decide) (by decide)
              replace p71 : GR (xbk [0, 1, 2, 3, 4, 5, 6, 7, 8, 9, 10, 11, 12] (xput (xput (xput (xput (xput (xput (xput (xput (xput (xput σ 13 0 p) 13 1 q) 13 2 kind) 13 3 0) 13 4 (-1)) 13 5 (-1)) 13 6 0) 13 7 0) 0 15 z64) 6 p.toNat z67) ς71) (learnF (acF f p.toNat) p.toNat kind) := p71.bk
              generalize xbk [0, 1, 2, 3, 4, 5, 6, 7, 8, 9, 10, 11, 12] (xput (xput (xput (xput (xput (xput (xput (xput (xput (xput σ 13 0 p) 13 1 q) 13 2 kind) 13 3 0) 13 4 (-1)) 13 5 (-1)) 13 6 0) 13 7 0) 0 15 z64) 6 p.toNat z67) ς71 = σ71 at f71 p71 ⊢
              have hF := hF.tr f71 (by decide) (by decide)
              have x13 : ∀ j, σ71 13 j = (xput (xput (xput (xput (xput (xput (xput (xput (xput (xput σ 13 0 p) 13 1 q) 13 2 kind) 13 3 0) 13 4 (-1)) 13 5 (-1)) 13 6 0) 13 7 0) 0 15 z64) 6 p.toNat z67) 13 j := fun j => congrFun (f71.1 13 (by decide) (by decide)) j
              exact lp_164 σ71 ⟨hF, (by unfold ak1F; rw [if_pos (by omega), show ((kind.toNat : Nat) : Int) = kind from by omega]; exact p71), (x13 0).trans (show p = p from rfl), (x13 1).trans (show q = q from rfl), (x13 2).trans (show kind = kind from rfl), (x13 3).trans (show 0 = (if gvs f q.toNat kind.toNat lies then f (60 + 13 * q.toNat + kind.toNat) else 0) from (by first | (rw [if_pos (by omega)]; done) | (rw [if_neg (by omega)]; done) | (rw [if_pos (by omega)]; omega) | (rw [if_neg (by omega)]; omega))), (x13 4).trans (show (-1) = -1 from rfl), (x13 5).trans (show (-1) = -1 from rfl), (x13 6).trans (show 0 = (if 0 < f (60 + 13 * q.toNat + kind.toNat) ∧ lies = 1 then 1 else 0) from (by first | (rw [if_pos (by omega)]; done) | (rw [if_neg (by omega)]; done) | (rw [if_pos (by omega)]; omega) | (rw [if_neg (by omega)]; omega))), (x13 7).trans (show 0 = sureF f q.toNat kind.toNat from (by unfold sureF; rw [show ((kind.toNat : Nat) : Int) = kind from by omega]; first | (rw [if_pos (by omega)]; done) | (rw [if_neg (by omega), if_pos (by omega)]; done) | (rw [if_neg (by omega), if_neg (by omega)]; done)))⟩
          · refine And.intro (rfl) (And.intro (⟨by omega, by omega⟩) ?_)
            have hF := hF.pt (t := 13) (j := 7) (v := 1) (by decide) (by decide)
            refine hX 400 123 _ _ ?_
            have hGs : GR (xput (xput (xput (xput (xput (xput (xput (xput σ 13 0 p) 13 1 q) 13 2 kind) 13 3 0) 13 4 (-1)) 13 5 (-1)) 13 6 0) 13 7 1) f := hp0.fr (ts := [13]) (js := []) (by repeat (first | exact Fr.rf | refine Fr.pt ?_ (by decide) (by decide)))
            have n5 : σ 0 15 = f 5 := hp0.n1 (i := 5) (by decide)
            have n553 : σ 6 p.toNat = f (553 + p.toNat) := by
              have z := hp0.1 _ _ _ _ (mp_as (j := p.toNat) (by omega))
              omega
            intro v73 e73 l73 h73
            have e73 : v73 = σ 0 15 := e73
            intro z74 t74 e74 l74 h74
            try have w74 : t74 = 0 := by omega
            have hF := hF.p (j := 15) (v := z74) (by decide)
            refine And.intro (rfl) (And.intro (⟨by omega, by omega⟩) ?_)
            intro v76 e76 l76 h76
            have e76 : v76 = σ 6 p.toNat := e76
            intro z77 t77 e77 l77 h77
            try have w77 : t77 = 0 := by omega
            refine And.intro (rfl) (And.intro (⟨by omega, by omega⟩) ?_)
            have hF := hF.pt (t := 6) (j := p.toNat) (v := z77) (by decide) (by decide)
            have hGa : GR (xput (xput (xput (xput (xput (xput (xput (xput (xput (xput σ 13 0 p) 13 1 q) 13 2 kind) 13 3 0) 13 4 (-1)) 13 5 (-1)) 13 6 0) 13 7 1) 0 15 z74) 6 p.toNat z77) (acF f p.toNat) := (hGs.num (i := 5) (t := 0) (j := 15) (c := 0) (v := wr (f 5 + 1)) (w := z74) (by decide) (by unfold wr; omega) (by decide) (by decide)).num (mp_as (j := p.toNat) (by omega)) (v := wr (f (553 + p.toNat) + 1)) (w := z77) (by unfold wr; omega) (by decide) (by omega)
            obtain ⟨hVa, oa⟩ := hp1.ac (a := p.toNat) (by omega)
            have oak := oa (151 + 13 * p.toNat + kind.toNat) (by omega) (by omega)
            refine xMVp (sh := shH) (ci := 3) (τ := [0, 1, 2, 3, 4, 5, 6, 7, 8, 9, 10, 11, 12]) (E := xT kX3_sureOf) (t := 9) (r := [xvi p, xvi kind]) (σ := (xput (xput (xput (xput (xput (xput (xput (xput (xput (xput σ 13 0 p) 13 1 q) 13 2 kind) 13 3 0) 13 4 (-1)) 13 5 (-1)) 13 6 0) 13 7 1) 0 15 z74) 6 p.toNat z77)) rfl rfl xbk_sel (fun Q79 hQ79 => sX3_sureOf (σ := xsel [0, 1, 2, 3, 4, 5, 6, 7, 8, 9, 10, 11, 12] (xput (xput (xput (xput (xput (xput (xput (xput (xput (xput σ 13 0 p) 13 1 q) 13 2 kind) 13 3 0) 13 4 (-1)) 13 5 (-1)) 13 6 0) 13 7 1) 0 15 z74) 6 p.toNat z77)) (p := p) (kind := kind) hp2 hp4 (fun r79 p79 => hQ79 _ ?_))
            have p79 : r79 = (xput (xput (xput (xput (xput (xput (xput (xput (xput (xput σ 13 0 p) 13 1 q) 13 2 kind) 13 3 0) 13 4 (-1)) 13 5 (-1)) 13 6 0) 13 7 1) 0 15 z74) 6 p.toNat z77) 10 (13 * p + kind).toNat := p79
            have p79 := p79.trans ((hGa.vk hp2 hp4).trans oak)
            refine And.intro (fun c80 => ?_) (fun c80 => ?_)
            · exact lp_164 (xput (xput (xput (xput (xput (xput (xput (xput (xput (xput σ 13 0 p) 13 1 q) 13 2 kind) 13 3 0) 13 4 (-1)) 13 5 (-1)) 13 6 0) 13 7 1) 0 15 z74) 6 p.toNat z77) ⟨hF, (by unfold ak1F; rw [if_neg (by omega)]; exact hGa), (show p = p from rfl), (show q = q from rfl), (show kind = kind from rfl), (show 0 = (if gvs f q.toNat kind.toNat lies then f (60 + 13 * q.toNat + kind.toNat) else 0) from (by first | (rw [if_pos (by omega)]; done) | (rw [if_neg (by omega)]; done) | (rw [if_pos (by omega)]; omega) | (rw [if_neg (by omega)]; omega))), (show (-1) = -1 from rfl), (show (-1) = -1 from rfl), (show 0 = (if 0 < f (60 + 13 * q.toNat + kind.toNat) ∧ lies = 1 then 1 else 0) from (by first | (rw [if_pos (by omega)]; done) | (rw [if_neg (by omega)]; done) | (rw [if_pos (by omega)]; omega) | (rw [if_neg (by omega)]; omega))), (show 1 = sureF f q.toNat kind.toNat from (by unfold sureF; rw [show ((kind.toNat : Nat) : Int) = kind from by omega]; first | (rw [if_pos (by omega)]; done) | (rw [if_neg (by omega), if_pos (by omega)]; done) | (rw [if_neg (by omega), if_neg (by omega)]; done)))⟩
            · refine xMVf (sh := shH) (ci := 3) (τ := [0, 1, 2, 3, 4, 5, 6, 7, 8, 9, 10, 11, 12]) (E := xT kX3_reveal) (t := 9) (r := [xvi p, xvi kind]) (σ := (xput (xput (xput (xput (xput (xput (xput (xput (xput (xput σ 13 0 p) 13 1 q) 13 2 kind) 13 3 0) 13 4 (-1)) 13 5 (-1)) 13 6 0) 13 7 1) 0 15 z74) 6 p.toNat z77)) rfl rfl (fun Q81 hQ81 => sX3_revealG (σ := xsel [0, 1, 2, 3, 4, 5, 6, 7, 8, 9, 10, 11, 12] (xput (xput (xput (xput (xput (xput (xput (xput (xput (xput σ 13 0 p) 13 1 q) 13 2 kind) 13 3 0) 13 4 (-1)) 13 5 (-1)) 13 6 0) 13 7 1) 0 15 z74) 6 p.toNat z77)) (f := acF f p.toNat) (p := p) (kind := kind) hp2 hp4 hGa.sel (by omega) (fun ς81 f81 p81 => hQ81 _ _ ?_))
              replace f81 : Fr [9, 10, 11, 12] [] (xput (xput (xput (xput (xput (xput (xput (xput (xput (xput σ 13 0 p) 13 1 q) 13 2 kind) 13 3 0) 13 4 (-1)) 13 5 (-1)) 13 6 0) 13 7 1) 0 15 z74) 6 p.toNat z77) (xbk [0, 1, 2, 3, 4, 5, 6, 7, 8, 9, 10, 11, 12] (xput (xput (xput (xput (xput (xput (xput (xput (xput (xput σ 13 0 p) 13 1 q) 13 2 kind) 13 3 0) 13 4 (-1)) 13 5 (-1)) 13 6 0) 13 7 1) 0 15 z74) 6 p.toNat z77) ς81) := f81.bk0 (by decide) (by decide) (by decide)
              replace p81 : GR (xbk [0, 1, 2, 3, 4, 5, 6, 7, 8, 9, 10, 11, 12] (xput (xput (xput (xput (xput (xput (xput (xput (xput (xput σ 13 0 p) 13 1 q) 13 2 kind) 13 3 0) 13 4 (-1)) 13 5 (-1)) 13 6 0) 13 7 1) 0 15 z74) 6 p.toNat z77) ς81) (learnF (acF f p.toNat) p.toNat kind) := p81.bk
              generalize xbk [0, 1, 2, 3, 4, 5, 6, 7, 8, 9, 10, 11, 12] (xput (xput (xput (xput (xput (xput (xput (xput (xput (xput σ 13 0 p) 13 1 q) 13 2 kind) 13 3 0) 13 4 (-1)) 13 5 (-1)) 13 6 0) 13 7 1) 0 15 z74) 6 p.toNat z77) ς81 = σ81 at f81 p81 ⊢
              have hF := hF.tr f81 (by decide) (by decide)
              have x13 : ∀ j, σ81 13 j = (xput (xput (xput (xput (xput (xput (xput (xput (xput (xput σ 13 0 p) 13 1 q) 13 2 kind) 13 3 0) 13 4 (-1)) 13 5 (-1)) 13 6 0) 13 7 1) 0 15 z74) 6 p.toNat z77) 13 j := fun j => congrFun (f81.1 13 (by decide) (by decide)) j
              exact lp_164 σ81 ⟨hF, (by unfold ak1F; rw [if_pos (by omega), show ((kind.toNat : Nat) : Int) = kind from by omega]; exact p81), (x13 0).trans (show p = p from rfl), (x13 1).trans (show q = q from rfl), (x13 2).trans (show kind = kind from rfl), (x13 3).trans (show 0 = (if gvs f q.toNat kind.toNat lies then f (60 + 13 * q.toNat + kind.toNat) else 0) from (by first | (rw [if_pos (by omega)]; done) | (rw [if_neg (by omega)]; done) | (rw [if_pos (by omega)]; omega) | (rw [if_neg (by omega)]; omega))), (x13 4).trans (show (-1) = -1 from rfl), (x13 5).trans (show (-1) = -1 from rfl), (x13 6).trans (show 0 = (if 0 < f (60 + 13 * q.toNat + kind.toNat) ∧ lies = 1 then 1 else 0) from (by first | (rw [if_pos (by omega)]; done) | (rw [if_neg (by omega)]; done) | (rw [if_pos (by omega)]; omega) | (rw [if_neg (by omega)]; omega))), (x13 7).trans (show 1 = sureF f q.toNat kind.toNat from (by unfold sureF; rw [show ((kind.toNat : Nat) : Int) = kind from by omega]; first | (rw [if_pos (by omega)]; done) | (rw [if_neg (by omega), if_pos (by omega)]; done) | (rw [if_neg (by omega), if_neg (by omega)]; done)))⟩
        · refine And.intro (rfl) (And.intro (⟨by omega, by omega⟩) ?_)
          have hF := hF.pt (t := 13) (j := 7) (v := 2) (by decide) (by decide)
          refine hX 400 123 _ _ ?_
          have hGs : GR (xput (xput (xput (xput (xput (xput (xput (xput σ 13 0 p) 13 1 q) 13 2 kind) 13 3 0) 13 4 (-1)) 13 5 (-1)) 13 6 0) 13 7 2) f := hp0.fr (ts := [13]) (js := []) (by repeat (first | exact Fr.rf | refine Fr.pt ?_ (by decide) (by decide)))
          have n5 : σ 0 15 = f 5 := hp0.n1 (i := 5) (by decide)
          have n553 : σ 6 p.toNat = f (553 + p.toNat) := by
            have z := hp0.1 _ _ _ _ (mp_as (j := p.toNat) (by omega))
            omega
          intro v83 e83 l83 h83
          have e83 : v83 = σ 0 15 := e83
          intro z84 t84 e84 l84 h84
          try have w84 : t84 = 0 := by omega
          have hF := hF.p (j := 15) (v := z84) (by decide)
          refine And.intro (rfl) (And.intro (⟨by omega, by omega⟩) ?_)
          intro v86 e86 l86 h86
          have e86 : v86 = σ 6 p.toNat := e86
          intro z87 t87 e87 l87 h87
          try have w87 : t87 = 0 := by omega
          refine And.intro (rfl) (And.intro (⟨by omega, by omega⟩) ?_)
          have hF := hF.pt (t := 6) (j := p.toNat) (v := z87) (by decide) (by decide)
          have hGa : GR (xput (xput (xput (xput (xput (xput (xput (xput (xput (xput σ 13 0 p) 13 1 q) 13 2 kind) 13 3 0) 13 4 (-1)) 13 5 (-1)) 13 6 0) 13 7 2) 0 15 z84) 6 p.toNat z87) (acF f p.toNat) := (hGs.num (i := 5) (t := 0) (j := 15) (c := 0) (v := wr (f 5 + 1)) (w := z84) (by decide) (by unfold wr; omega) (by decide) (by decide)).num (mp_as (j := p.toNat) (by omega)) (v := wr (f (553 + p.toNat) + 1)) (w := z87) (by unfold wr; omega) (by decide) (by omega)
          obtain ⟨hVa, oa⟩ := hp1.ac (a := p.toNat) (by omega)
          have oak := oa (151 + 13 * p.toNat + kind.toNat) (by omega) (by omega)
          refine xMVp (sh := shH) (ci := 3) (τ := [0, 1, 2, 3, 4, 5, 6, 7, 8, 9, 10, 11, 12]) (E := xT kX3_sureOf) (t := 9) (r := [xvi p, xvi kind]) (σ := (xput (xput (xput (xput (xput (xput (xput (xput (xput (xput σ 13 0 p) 13 1 q) 13 2 kind) 13 3 0) 13 4 (-1)) 13 5 (-1)) 13 6 0) 13 7 2) 0 15 z84) 6 p.toNat z87)) rfl rfl xbk_sel (fun Q89 hQ89 => sX3_sureOf (σ := xsel [0, 1, 2, 3, 4, 5, 6, 7, 8, 9, 10, 11, 12] (xput (xput (xput (xput (xput (xput (xput (xput (xput (xput σ 13 0 p) 13 1 q) 13 2 kind) 13 3 0) 13 4 (-1)) 13 5 (-1)) 13 6 0) 13 7 2) 0 15 z84) 6 p.toNat z87)) (p := p) (kind := kind) hp2 hp4 (fun r89 p89 => hQ89 _ ?_))
          have p89 : r89 = (xput (xput (xput (xput (xput (xput (xput (xput (xput (xput σ 13 0 p) 13 1 q) 13 2 kind) 13 3 0) 13 4 (-1)) 13 5 (-1)) 13 6 0) 13 7 2) 0 15 z84) 6 p.toNat z87) 10 (13 * p + kind).toNat := p89
          have p89 := p89.trans ((hGa.vk hp2 hp4).trans oak)
          refine And.intro (fun c90 => ?_) (fun c90 => ?_)
          · exact lp_164 (xput (xput (xput (xput (xput (xput (xput (xput (xput (xput σ 13 0 p) 13 1 q) 13 2 kind) 13 3 0) 13 4 (-1)) 13 5 (-1)) 13 6 0) 13 7 2) 0 15 z84) 6 p.toNat z87) ⟨hF, (by unfold ak1F; rw [if_neg (by omega)]; exact hGa), (show p = p from rfl), (show q = q from rfl), (show kind = kind from rfl), (show 0 = (if gvs f q.toNat kind.toNat lies then f (60 + 13 * q.toNat + kind.toNat) else 0) from (by first | (rw [if_pos (by omega)]; done) | (rw [if_neg (by omega)]; done) | (rw [if_pos (by omega)]; omega) | (rw [if_neg (by omega)]; omega))), (show (-1) = -1 from rfl), (show (-1) = -1 from rfl), (show 0 = (if 0 < f (60 + 13 * q.toNat + kind.toNat) ∧ lies = 1 then 1 else 0) from (by first | (rw [if_pos (by omega)]; done) | (rw [if_neg (by omega)]; done) | (rw [if_pos (by omega)]; omega) | (rw [if_neg (by omega)]; omega))), (show 2 = sureF f q.toNat kind.toNat from (by unfold sureF; rw [show ((kind.toNat : Nat) : Int) = kind from by omega]; first | (rw [if_pos (by omega)]; done) | (rw [if_neg (by omega), if_pos (by omega)]; done) | (rw [if_neg (by omega), if_neg (by omega)]; done)))⟩
          · refine xMVf (sh := shH) (ci := 3) (τ := [0, 1, 2, 3, 4, 5, 6, 7, 8, 9, 10, 11, 12]) (E := xT kX3_reveal) (t := 9) (r := [xvi p, xvi kind]) (σ := (xput (xput (xput (xput (xput (xput (xput (xput (xput (xput σ 13 0 p) 13 1 q) 13 2 kind) 13 3 0) 13 4 (-1)) 13 5 (-1)) 13 6 0) 13 7 2) 0 15 z84) 6 p.toNat z87)) rfl rfl (fun Q91 hQ91 => sX3_revealG (σ := xsel [0, 1, 2, 3, 4, 5, 6, 7, 8, 9, 10, 11, 12] (xput (xput (xput (xput (xput (xput (xput (xput (xput (xput σ 13 0 p) 13 1 q) 13 2 kind) 13 3 0) 13 4 (-1)) 13 5 (-1)) 13 6 0) 13 7 2) 0 15 z84) 6 p.toNat z87)) (f := acF f p.toNat) (p := p) (kind := kind) hp2 hp4 hGa.sel (by omega) (fun ς91 f91 p91 => hQ91 _ _ ?_))
            replace f91 : Fr [9, 10, 11, 12] [] (xput (xput (xput (xput (xput (xput (xput (xput (xput (xput σ 13 0 p) 13 1 q) 13 2 kind) 13 3 0) 13 4 (-1)) 13 5 (-1)) 13 6 0) 13 7 2) 0 15 z84) 6 p.toNat z87) (xbk [0, 1, 2, 3, 4, 5, 6, 7, 8, 9, 10, 11, 12] (xput (xput (xput (xput (xput (xput (xput (xput (xput (xput σ 13 0 p) 13 1 q) 13 2 kind) 13 3 0) 13 4 (-1)) 13 5 (-1)) 13 6 0) 13 7 2) 0 15 z84) 6 p.toNat z87) ς91) := f91.bk0 (by decide) (by decide) (by decide)
            replace p91 : GR (xbk [0, 1, 2, 3, 4, 5, 6, 7, 8, 9, 10, 11, 12] (xput (xput (xput (xput (xput (xput (xput (xput (xput (xput σ 13 0 p) 13 1 q) 13 2 kind) 13 3 0) 13 4 (-1)) 13 5 (-1)) 13 6 0) 13 7 2) 0 15 z84) 6 p.toNat z87) ς91) (learnF (acF f p.toNat) p.toNat kind) := p91.bk
            generalize xbk [0, 1, 2, 3, 4, 5, 6, 7, 8, 9, 10, 11, 12] (xput (xput (xput (xput (xput (xput (xput (xput (xput (xput σ 13 0 p) 13 1 q) 13 2 kind) 13 3 0) 13 4 (-1)) 13 5 (-1)) 13 6 0) 13 7 2) 0 15 z84) 6 p.toNat z87) ς91 = σ91 at f91 p91 ⊢
            have hF := hF.tr f91 (by decide) (by decide)
            have x13 : ∀ j, σ91 13 j = (xput (xput (xput (xput (xput (xput (xput (xput (xput (xput σ 13 0 p) 13 1 q) 13 2 kind) 13 3 0) 13 4 (-1)) 13 5 (-1)) 13 6 0) 13 7 2) 0 15 z84) 6 p.toNat z87) 13 j := fun j => congrFun (f91.1 13 (by decide) (by decide)) j
            exact lp_164 σ91 ⟨hF, (by unfold ak1F; rw [if_pos (by omega), show ((kind.toNat : Nat) : Int) = kind from by omega]; exact p91), (x13 0).trans (show p = p from rfl), (x13 1).trans (show q = q from rfl), (x13 2).trans (show kind = kind from rfl), (x13 3).trans (show 0 = (if gvs f q.toNat kind.toNat lies then f (60 + 13 * q.toNat + kind.toNat) else 0) from (by first | (rw [if_pos (by omega)]; done) | (rw [if_neg (by omega)]; done) | (rw [if_pos (by omega)]; omega) | (rw [if_neg (by omega)]; omega))), (x13 4).trans (show (-1) = -1 from rfl), (x13 5).trans (show (-1) = -1 from rfl), (x13 6).trans (show 0 = (if 0 < f (60 + 13 * q.toNat + kind.toNat) ∧ lies = 1 then 1 else 0) from (by first | (rw [if_pos (by omega)]; done) | (rw [if_neg (by omega)]; done) | (rw [if_pos (by omega)]; omega) | (rw [if_neg (by omega)]; omega))), (x13 7).trans (show 2 = sureF f q.toNat kind.toNat from (by unfold sureF; rw [show ((kind.toNat : Nat) : Int) = kind from by omega]; first | (rw [if_pos (by omega)]; done) | (rw [if_neg (by omega), if_pos (by omega)]; done) | (rw [if_neg (by omega), if_neg (by omega)]; done)))⟩
      · refine And.intro (rfl) (And.intro (⟨by omega, by omega⟩) ?_)
        have hF := hF.pt (t := 13) (j := 6) (v := 1) (by decide) (by decide)
        refine hX 400 85 _ _ ?_
        refine xMVp (sh := shH) (ci := 3) (τ := [0, 1, 2, 3, 4, 5, 6, 7, 8, 9, 10, 11, 12]) (E := xT kX3_sureOf) (t := 9) (r := [xvi q, xvi kind]) (σ := (xput (xput (xput (xput (xput (xput (xput σ 13 0 p) 13 1 q) 13 2 kind) 13 3 0) 13 4 (-1)) 13 5 (-1)) 13 6 1)) rfl rfl xbk_sel (fun Q93 hQ93 => sX3_sureOf (σ := xsel [0, 1, 2, 3, 4, 5, 6, 7, 8, 9, 10, 11, 12] (xput (xput (xput (xput (xput (xput (xput σ 13 0 p) 13 1 q) 13 2 kind) 13 3 0) 13 4 (-1)) 13 5 (-1)) 13 6 1)) (p := q) (kind := kind) hp3 hp4 (fun r93 p93 => hQ93 _ ?_))
        have p93 : r93 = σ 10 (13 * q + kind).toNat := p93
        rw [hp0.vk hp3 hp4] at p93
        refine And.intro (fun c94 => ?_) (fun c94 => ?_)
        · have hGs : GR (xput (xput (xput (xput (xput (xput (xput σ 13 0 p) 13 1 q) 13 2 kind) 13 3 0) 13 4 (-1)) 13 5 (-1)) 13 6 1) f := hp0.fr (ts := [13]) (js := []) (by repeat (first | exact Fr.rf | refine Fr.pt ?_ (by decide) (by decide)))
          refine xMVp (sh := shH) (ci := 3) (τ := [0, 1, 2, 3, 4, 5, 6, 7, 8, 9, 10, 11, 12]) (E := xT kX3_mayBe) (t := 9) (r := [xvi q, xvi kind]) (σ := (xput (xput (xput (xput (xput (xput (xput σ 13 0 p) 13 1 q) 13 2 kind) 13 3 0) 13 4 (-1)) 13 5 (-1)) 13 6 1)) rfl rfl xbk_sel (fun Q95 hQ95 => sX3_mayBeG (σ := xsel [0, 1, 2, 3, 4, 5, 6, 7, 8, 9, 10, 11, 12] (xput (xput (xput (xput (xput (xput (xput σ 13 0 p) 13 1 q) 13 2 kind) 13 3 0) 13 4 (-1)) 13 5 (-1)) 13 6 1)) (f := f) (p := q) (kind := kind) hGs.sel hp3 hp4 (fun r95 p95 => hQ95 _ ?_))
          have p95 : r95 = canF f q.toNat kind := p95
          refine And.intro (fun c96 => ?_) (fun c96 => ?_)
          · refine And.intro (rfl) (And.intro (⟨by omega, by omega⟩) ?_)
            have hF := hF.pt (t := 13) (j := 7) (v := 0) (by decide) (by decide)
            refine hX 400 123 _ _ ?_
            have hGs : GR (xput (xput (xput (xput (xput (xput (xput (xput σ 13 0 p) 13 1 q) 13 2 kind) 13 3 0) 13 4 (-1)) 13 5 (-1)) 13 6 1) 13 7 0) f := hp0.fr (ts := [13]) (js := []) (by repeat (first | exact Fr.rf | refine Fr.pt ?_ (by decide) (by decide)))
            have n5 : σ 0 15 = f 5 := hp0.n1 (i := 5) (by decide)
            have n553 : σ 6 p.toNat = f (553 + p.toNat) := by
              have z := hp0.1 _ _ _ _ (mp_as (j := p.toNat) (by omega))
              omega
            intro v98 e98 l98 h98
            have e98 : v98 = σ 0 15 := e98
            intro z99 t99 e99 l99 h99
            try have w99 : t99 = 0 := by omega
            have hF := hF.p (j := 15) (v := z99) (by decide)
            refine And.intro (rfl) (And.intro (⟨by omega, by omega⟩) ?_)
            intro v101 e101 l101 h101
            have e101 : v101 = σ 6 p.toNat := e101
            intro z102 t102 e102 l102 h102
            try have w102 : t102 = 0 := by omega
            refine And.intro (rfl) (And.intro (⟨by omega, by omega⟩) ?_)
            have hF := hF.pt (t := 6) (j := p.toNat) (v := z102) (by decide) (by decide)
            have hGa : GR (xput (xput (xput (xput (xput (xput (xput (xput (xput (xput σ 13 0 p) 13 1 q) 13 2 kind) 13 3 0) 13 4 (-1)) 13 5 (-1)) 13 6 1) 13 7 0) 0 15 z99) 6 p.toNat z102) (acF f p.toNat) := (hGs.num (i := 5) (t := 0) (j := 15) (c := 0) (v := wr (f 5 + 1)) (w := z99) (by decide) (by unfold wr; omega) (by decide) (by decide)).num (mp_as (j := p.toNat) (by omega)) (v := wr (f (553 + p.toNat) + 1)) (w := z102) (by unfold wr; omega) (by decide) (by omega)
            obtain ⟨hVa, oa⟩ := hp1.ac (a := p.toNat) (by omega)
            have oak := oa (151 + 13 * p.toNat + kind.toNat) (by omega) (by omega)
            refine xMVp (sh := shH) (ci := 3) (τ := [0, 1, 2, 3, 4, 5, 6, 7, 8, 9, 10, 11, 12]) (E := xT kX3_sureOf) (t := 9) (r := [xvi p, xvi kind]) (σ := (xput (xput (xput (xput (xput (xput (xput (xput (xput (xput σ 13 0 p) 13 1 q) 13 2 kind) 13 3 0) 13 4 (-1)) 13 5 (-1)) 13 6 1) 13 7 0) 0 15 z99) 6 p.toNat z102)) rfl rfl xbk_sel (fun Q104 hQ104 => sX3_sureOf (σ := xsel [0, 1, 2, 3, 4, 5, 6, 7, 8, 9, 10, 11, 12] (xput (xput (xput (xput (xput (xput (xput (xput (xput (xput σ 13 0 p) 13 1 q) 13 2 kind) 13 3 0) 13 4 (-1)) 13 5 (-1)) 13 6 1) 13 7 0) 0 15 z99) 6 p.toNat z102)) (p := p) (kind := kind) hp2 hp4 (fun r104 p104 => hQ104 _ ?_))
            have p104 : r104 = (xput (xput (xput (xput (xput (xput (xput (xput (xput (xput σ 13 0 p) 13 1 q) 13 2 kind) 13 3 0) 13 4 (-1)) 13 5 (-1)) 13 6 1) 13 7 0) 0 15 z99) 6 p.toNat z102) 10 (13 * p + kind).toNat := p104
            have p104 := p104.trans ((hGa.vk hp2 hp4).trans oak)
            refine And.intro (fun c105 => ?_) (fun c105 => ?_)
            · exact lp_164 (xput (xput (xput (xput (xput (xput (xput (xput (xput (xput σ 13 0 p) 13 1 q) 13 2 kind) 13 3 0) 13 4 (-1)) 13 5 (-1)) 13 6 1) 13 7 0) 0 15 z99) 6 p.toNat z102) ⟨hF, (by unfold ak1F; rw [if_neg (by omega)]; exact hGa), (show p = p from rfl), (show q = q from rfl), (show kind = kind from rfl), (show 0 = (if gvs f q.toNat kind.toNat lies then f (60 + 13 * q.toNat + kind.toNat) else 0) from (by first | (rw [if_pos (by omega)]; done) | (rw [if_neg (by omega)]; done) | (rw [if_pos (by omega)]; omega) | (rw [if_neg (by omega)]; omega))), (show (-1) = -1 from rfl), (show (-1) = -1 from rfl), (show 1 = (if 0 < f (60 + 13 * q.toNat + kind.toNat) ∧ lies = 1 then 1 else 0) from (by first | (rw [if_pos (by omega)]; done) | (rw [if_neg (by omega)]; done) | (rw [if_pos (by omega)]; omega) | (rw [if_neg (by omega)]; omega))), (show 0 = sureF f q.toNat kind.toNat from (by unfold sureF; rw [show ((kind.toNat : Nat) : Int) = kind from by omega]; first | (rw [if_pos (by omega)]; done) | (rw [if_neg (by omega), if_pos (by omega)]; done) | (rw [if_neg (by omega), if_neg (by omega)]; done)))⟩
            · refine xMVf (sh := shH) (ci := 3) (τ := [0, 1, 2, 3, 4, 5, 6, 7, 8, 9, 10, 11, 12]) (E := xT kX3_reveal) (t := 9) (r := [xvi p, xvi kind]) (σ := (xput (xput (xput (xput (xput (xput (xput (xput (xput (xput σ 13 0 p) 13 1 q) 13 2 kind) 13 3 0) 13 4 (-1)) 13 5 (-1)) 13 6 1) 13 7 0) 0 15 z99) 6 p.toNat z102)) rfl rfl (fun Q106 hQ106 => sX3_revealG (σ := xsel [0, 1, 2, 3, 4, 5, 6, 7, 8, 9, 10, 11, 12] (xput (xput (xput (xput (xput (xput (xput (xput (xput (xput σ 13 0 p) 13 1 q) 13 2 kind) 13 3 0) 13 4 (-1)) 13 5 (-1)) 13 6 1) 13 7 0) 0 15 z99) 6 p.toNat z102)) (f := acF f p.toNat) (p := p) (kind := kind) hp2 hp4 hGa.sel (by omega) (fun ς106 f106 p106 => hQ106 _ _ ?_))
              replace f106 : Fr [9, 10, 11, 12] [] (xput (xput (xput (xput (xput (xput (xput (xput (xput (xput σ 13 0 p) 13 1 q) 13 2 kind) 13 3 0) 13 4 (-1)) 13 5 (-1)) 13 6 1) 13 7 0) 0 15 z99) 6 p.toNat z102) (xbk [0, 1, 2, 3, 4, 5, 6, 7, 8, 9, 10, 11, 12] (xput (xput (xput (xput (xput (xput (xput (xput (xput (xput σ 13 0 p) 13 1 q) 13 2 kind) 13 3 0) 13 4 (-1)) 13 5 (-1)) 13 6 1) 13 7 0) 0 15 z99) 6 p.toNat z102) ς106) := f106.bk0 (by decide) (by decide) (by decide)
              replace p106 : GR (xbk [0, 1, 2, 3, 4, 5, 6, 7, 8, 9, 10, 11, 12] (xput (xput (xput (xput (xput (xput (xput (xput (xput (xput σ 13 0 p) 13 1 q) 13 2 kind) 13 3 0) 13 4 (-1)) 13 5 (-1)) 13 6 1) 13 7 0) 0 15 z99) 6 p.toNat z102) ς106) (learnF (acF f p.toNat) p.toNat kind) := p106.bk
              generalize xbk [0, 1, 2, 3, 4, 5, 6, 7, 8, 9, 10, 11, 12] (xput (xput (xput (xput (xput (xput (xput (xput (xput (xput σ 13 0 p) 13 1 q) 13 2 kind) 13 3 0) 13 4 (-1)) 13 5 (-1)) 13 6 1) 13 7 0) 0 15 z99) 6 p.toNat z102) ς106 = σ106 at f106 p106 ⊢
              have hF := hF.tr f106 (by decide) (by decide)
              have x13 : ∀ j, σ106 13 j = (xput (xput (xput (xput (xput (xput (xput (xput (xput (xput σ 13 0 p) 13 1 q) 13 2 kind) 13 3 0) 13 4 (-1)) 13 5 (-1)) 13 6 1) 13 7 0) 0 15 z99) 6 p.toNat z102) 13 j := fun j => congrFun (f106.1 13 (by decide) (by decide)) j
              exact lp_164 σ106 ⟨hF, (by unfold ak1F; rw [if_pos (by omega), show ((kind.toNat : Nat) : Int) = kind from by omega]; exact p106), (x13 0).trans (show p = p from rfl), (x13 1).trans (show q = q from rfl), (x13 2).trans (show kind = kind from rfl), (x13 3).trans (show 0 = (if gvs f q.toNat kind.toNat lies then f (60 + 13 * q.toNat + kind.toNat) else 0) from (by first | (rw [if_pos (by omega)]; done) | (rw [if_neg (by omega)]; done) | (rw [if_pos (by omega)]; omega) | (rw [if_neg (by omega)]; omega))), (x13 4).trans (show (-1) = -1 from rfl), (x13 5).trans (show (-1) = -1 from rfl), (x13 6).trans (show 1 = (if 0 < f (60 + 13 * q.toNat + kind.toNat) ∧ lies = 1 then 1 else 0) from (by first | (rw [if_pos (by omega)]; done) | (rw [if_neg (by omega)]; done) | (rw [if_pos (by omega)]; omega) | (rw [if_neg (by omega)]; omega))), (x13 7).trans (show 0 = sureF f q.toNat kind.toNat from (by unfold sureF; rw [show ((kind.toNat : Nat) : Int) = kind from by omega]; first | (rw [if_pos (by omega)]; done) | (rw [if_neg (by omega), if_pos (by omega)]; done) | (rw [if_neg (by omega), if_neg (by omega)]; done)))⟩
          · refine And.intro (rfl) (And.intro (⟨by omega, by omega⟩) ?_)
            have hF := hF.pt (t := 13) (j := 7) (v := 1) (by decide) (by decide)
            refine hX 400 123 _ _ ?_
            have hGs : GR (xput (xput (xput (xput (xput (xput (xput (xput σ 13 0 p) 13 1 q) 13 2 kind) 13 3 0) 13 4 (-1)) 13 5 (-1)) 13 6 1) 13 7 1) f := hp0.fr (ts := [13]) (js := []) (by repeat (first | exact Fr.rf | refine Fr.pt ?_ (by decide) (by decide)))
            have n5 : σ 0 15 = f 5 := hp0.n1 (i := 5) (by decide)
            have n553 : σ 6 p.toNat = f (553 + p.toNat) := by
              have z := hp0.1 _ _ _ _ (mp_as (j := p.toNat) (by omega))
              omega
            intro v108 e108 l108 h108
            have e108 : v108 = σ 0 15 := e108
            intro z109 t109 e109 l109 h109
            try have w109 : t109 = 0 := by omega
            have hF := hF.p (j := 15) (v := z109) (by decide)
            refine And.intro (rfl) (And.intro (⟨by omega, by omega⟩) ?_)
            intro v111 e111 l111 h111
            have e111 : v111 = σ 6 p.toNat := e111
            intro z112 t112 e112 l112 h112
            try have w112 : t112 = 0 := by omega
            refine And.intro (rfl) (And.intro (⟨by omega, by omega⟩) ?_)
            have hF := hF.pt (t := 6) (j := p.toNat) (v := z112) (by decide) (by decide)
            have hGa : GR (xput (xput (xput (xput (xput (xput (xput (xput (xput (xput σ 13 0 p) 13 1 q) 13 2 kind) 13 3 0) 13 4 (-1)) 13 5 (-1)) 13 6 1) 13 7 1) 0 15 z109) 6 p.toNat z112) (acF f p.toNat) := (hGs.num (i := 5) (t := 0) (j := 15) (c := 0) (v := wr (f 5 + 1)) (w := z109) (by decide) (by unfold wr; omega) (by decide) (by decide)).num (mp_as (j := p.toNat) (by omega)) (v := wr (f (553 + p.toNat) + 1)) (w := z112) (by unfold wr; omega) (by decide) (by omega)
            obtain ⟨hVa, oa⟩ := hp1.ac (a := p.toNat) (by omega)
            have oak := oa (151 + 13 * p.toNat + kind.toNat) (by omega) (by omega)
            refine xMVp (sh := shH) (ci := 3) (τ := [0, 1, 2, 3, 4, 5, 6, 7, 8, 9, 10, 11, 12]) (E := xT kX3_sureOf) (t := 9) (r := [xvi p, xvi kind]) (σ := (xput (xput (xput (xput (xput (xput (xput (xput (xput (xput σ 13 0 p) 13 1 q) 13 2 kind) 13 3 0) 13 4 (-1)) 13 5 (-1)) 13 6 1) 13 7 1) 0 15 z109) 6 p.toNat z112)) rfl rfl xbk_sel (fun Q114 hQ114 => sX3_sureOf (σ := xsel [0, 1, 2, 3, 4, 5, 6, 7, 8, 9, 10, 11, 12] (xput (xput (xput (xput (xput (xput (xput (xput (xput (xput σ 13 0 p) 13 1 q) 13 2 kind) 13 3 0) 13 4 (-1)) 13 5 (-1)) 13 6 1) 13 7 1) 0 15 z109) 6 p.toNat z112)) (p := p) (kind := kind) hp2 hp4 (fun r114 p114 => hQ114 _ ?_))
            have p114 : r114 = (xput (xput (xput (xput (xput (xput (xput (xput (xput (xput σ 13 0 p) 13 1 q) 13 2 kind) 13 3 0) 13 4 (-1)) 13 5 (-1)) 13 6 1) 13 7 1) 0 15 z109) 6 p.toNat z112) 10 (13 * p + kind).toNat := p114
            have p114 := p114.trans ((hGa.vk hp2 hp4).trans oak)
            refine And.intro (fun c115 => ?_) (fun c115 => ?_)
            · exact lp_164 (xput (xput (xput (xput (xput (xput (xput (xput (xput (xput σ 13 0 p) 13 1 q) 13 2 kind) 13 3 0) 13 4 (-1)) 13 5 (-1)) 13 6 1) 13 7 1) 0 15 z109) 6 p.toNat z112) ⟨hF, (by unfold ak1F; rw [if_neg (by omega)]; exact hGa), (show p = p from rfl), (show q = q from rfl), (show kind = kind from rfl), (show 0 = (if gvs f q.toNat kind.toNat lies then f (60 + 13 * q.toNat + kind.toNat) else 0) from (by first | (rw [if_pos (by omega)]; done) | (rw [if_neg (by omega)]; done) | (rw [if_pos (by omega)]; omega) | (rw [if_neg (by omega)]; omega))), (show (-1) = -1 from rfl), (show (-1) = -1 from rfl), (show 1 = (if 0 < f (60 + 13 * q.toNat + kind.toNat) ∧ lies = 1 then 1 else 0) from (by first | (rw [if_pos (by omega)]; done) | (rw [if_neg (by omega)]; done) | (rw [if_pos (by omega)]; omega) | (rw [if_neg (by omega)]; omega))), (show 1 = sureF f q.toNat kind.toNat from (by unfold sureF; rw [show ((kind.toNat : Nat) : Int) = kind from by omega]; first | (rw [if_pos (by omega)]; done) | (rw [if_neg (by omega), if_pos (by omega)]; done) | (rw [if_neg (by omega), if_neg (by omega)]; done)))⟩
            · refine xMVf (sh := shH) (ci := 3) (τ := [0, 1, 2, 3, 4, 5, 6, 7, 8, 9, 10, 11, 12]) (E := xT kX3_reveal) (t := 9) (r := [xvi p, xvi kind]) (σ := (xput (xput (xput (xput (xput (xput (xput (xput (xput (xput σ 13 0 p) 13 1 q) 13 2 kind) 13 3 0) 13 4 (-1)) 13 5 (-1)) 13 6 1) 13 7 1) 0 15 z109) 6 p.toNat z112)) rfl rfl (fun Q116 hQ116 => sX3_revealG (σ := xsel [0, 1, 2, 3, 4, 5, 6, 7, 8, 9, 10, 11, 12] (xput (xput (xput (xput (xput (xput (xput (xput (xput (xput σ 13 0 p) 13 1 q) 13 2 kind) 13 3 0) 13 4 (-1)) 13 5 (-1)) 13 6 1) 13 7 1) 0 15 z109) 6 p.toNat z112)) (f := acF f p.toNat) (p := p) (kind := kind) hp2 hp4 hGa.sel (by omega) (fun ς116 f116 p116 => hQ116 _ _ ?_))
              replace f116 : Fr [9, 10, 11, 12] [] (xput (xput (xput (xput (xput (xput (xput (xput (xput (xput σ 13 0 p) 13 1 q) 13 2 kind) 13 3 0) 13 4 (-1)) 13 5 (-1)) 13 6 1) 13 7 1) 0 15 z109) 6 p.toNat z112) (xbk [0, 1, 2, 3, 4, 5, 6, 7, 8, 9, 10, 11, 12] (xput (xput (xput (xput (xput (xput (xput (xput (xput (xput σ 13 0 p) 13 1 q) 13 2 kind) 13 3 0) 13 4 (-1)) 13 5 (-1)) 13 6 1) 13 7 1) 0 15 z109) 6 p.toNat z112) ς116) := f116.bk0 (by decide) (by decide) (by decide)
              replace p116 : GR (xbk [0, 1, 2, 3, 4, 5, 6, 7, 8, 9, 10, 11, 12] (xput (xput (xput (xput (xput (xput (xput (xput (xput (xput σ 13 0 p) 13 1 q) 13 2 kind) 13 3 0) 13 4 (-1)) 13 5 (-1)) 13 6 1) 13 7 1) 0 15 z109) 6 p.toNat z112) ς116) (learnF (acF f p.toNat) p.toNat kind) := p116.bk
              generalize xbk [0, 1, 2, 3, 4, 5, 6, 7, 8, 9, 10, 11, 12] (xput (xput (xput (xput (xput (xput (xput (xput (xput (xput σ 13 0 p) 13 1 q) 13 2 kind) 13 3 0) 13 4 (-1)) 13 5 (-1)) 13 6 1) 13 7 1) 0 15 z109) 6 p.toNat z112) ς116 = σ116 at f116 p116 ⊢
              have hF := hF.tr f116 (by decide) (by decide)
              have x13 : ∀ j, σ116 13 j = (xput (xput (xput (xput (xput (xput (xput (xput (xput (xput σ 13 0 p) 13 1 q) 13 2 kind) 13 3 0) 13 4 (-1)) 13 5 (-1)) 13 6 1) 13 7 1) 0 15 z109) 6 p.toNat z112) 13 j := fun j => congrFun (f116.1 13 (by decide) (by decide)) j
              exact lp_164 σ116 ⟨hF, (by unfold ak1F; rw [if_pos (by omega), show ((kind.toNat : Nat) : Int) = kind from by omega]; exact p116), (x13 0).trans (show p = p from rfl), (x13 1).trans (show q = q from rfl), (x13 2).trans (show kind = kind from rfl), (x13 3).trans (show 0 = (if gvs f q.toNat kind.toNat lies then f (60 + 13 * q.toNat + kind.toNat) else 0) from (by first | (rw [if_pos (by omega)]; done) | (rw [if_neg (by omega)]; done) | (rw [if_pos (by omega)]; omega) | (rw [if_neg (by omega)]; omega))), (x13 4).trans (show (-1) = -1 from rfl), (x13 5).trans (show (-1) = -1 from rfl), (x13 6).trans (show 1 = (if 0 < f (60 + 13 * q.toNat + kind.toNat) ∧ lies = 1 then 1 else 0) from (by first | (rw [if_pos (by omega)]; done) | (rw [if_neg (by omega)]; done) | (rw [if_pos (by omega)]; omega) | (rw [if_neg (by omega)]; omega))), (x13 7).trans (show 1 = sureF f q.toNat kind.toNat from (by unfold sureF; rw [show ((kind.toNat : Nat) : Int) = kind from by omega]; first | (rw [if_pos (by omega)]; done) | (rw [if_neg (by omega), if_pos (by omega)]; done) | (rw [if_neg (by omega), if_neg (by omega)]; done)))⟩
        · refine And.intro (rfl) (And.intro (⟨by omega, by omega⟩) ?_)
          have hF := hF.pt (t := 13) (j := 7) (v := 2) (by decide) (by decide)
          refine hX 400 123 _ _ ?_
          have hGs : GR (xput (xput (xput (xput (xput (xput (xput (xput σ 13 0 p) 13 1 q) 13 2 kind) 13 3 0) 13 4 (-1)) 13 5 (-1)) 13 6 1) 13 7 2) f := hp0.fr (ts := [13]) (js := []) (by repeat (first | exact Fr.rf | refine Fr.pt ?_ (by decide) (by decide)))
          have n5 : σ 0 15 = f 5 := hp0.n1 (i := 5) (by decide)
          have n553 : σ 6 p.toNat = f (553 + p.toNat) := by
            have z := hp0.1 _ _ _ _ (mp_as (j := p.toNat) (by omega))
            omega
          intro v118 e118 l118 h118
          have e118 : v118 = σ 0 15 := e118
          intro z119 t119 e119 l119 h119
          try have w119 : t119 = 0 := by omega
          have hF := hF.p (j := 15) (v := z119) (by decide)
          refine And.intro (rfl) (And.intro (⟨by omega, by omega⟩) ?_)
          intro v121 e121 l121 h121
          have e121 : v121 = σ 6 p.toNat := e121
          intro z122 t122 e122 l122 h122
          try have w122 : t122 = 0 := by omega
          refine And.intro (rfl) (And.intro (⟨by omega, by omega⟩) ?_)
          have hF := hF.pt (t := 6) (j := p.toNat) (v := z122) (by decide) (by decide)
          have hGa : GR (xput (xput (xput (xput (xput (xput (xput (xput (xput (xput σ 13 0 p) 13 1 q) 13 2 kind) 13 3 0) 13 4 (-1)) 13 5 (-1)) 13 6 1) 13 7 2) 0 15 z119) 6 p.toNat z122) (acF f p.toNat) := (hGs.num (i := 5) (t := 0) (j := 15) (c := 0) (v := wr (f 5 + 1)) (w := z119) (by decide) (by unfold wr; omega) (by decide) (by decide)).num (mp_as (j := p.toNat) (by omega)) (v := wr (f (553 + p.toNat) + 1)) (w := z122) (by unfold wr; omega) (by decide) (by omega)
          obtain ⟨hVa, oa⟩ := hp1.ac (a := p.toNat) (by omega)
          have oak := oa (151 + 13 * p.toNat + kind.toNat) (by omega) (by omega)
          refine xMVp (sh := shH) (ci := 3) (τ := [0, 1, 2, 3, 4, 5, 6, 7, 8, 9, 10, 11, 12]) (E := xT kX3_sureOf) (t := 9) (r := [xvi p, xvi kind]) (σ := (xput (xput (xput (xput (xput (xput (xput (xput (xput (xput σ 13 0 p) 13 1 q) 13 2 kind) 13 3 0) 13 4 (-1)) 13 5 (-1)) 13 6 1) 13 7 2) 0 15 z119) 6 p.toNat z122)) rfl rfl xbk_sel (fun Q124 hQ124 => sX3_sureOf (σ := xsel [0, 1, 2, 3, 4, 5, 6, 7, 8, 9, 10, 11, 12] (xput (xput (xput (xput (xput (xput (xput (xput (xput (xput σ 13 0 p) 13 1 q) 13 2 kind) 13 3 0) 13 4 (-1)) 13 5 (-1)) 13 6 1) 13 7 2) 0 15 z119) 6 p.toNat z122)) (p := p) (kind := kind) hp2 hp4 (fun r124 p124 => hQ124 _ ?_))
          have p124 : r124 = (xput (xput (xput (xput (xput (xput (xput (xput (xput (xput σ 13 0 p) 13 1 q) 13 2 kind) 13 3 0) 13 4 (-1)) 13 5 (-1)) 13 6 1) 13 7 2) 0 15 z119) 6 p.toNat z122) 10 (13 * p + kind).toNat := p124
          have p124 := p124.trans ((hGa.vk hp2 hp4).trans oak)
          refine And.intro (fun c125 => ?_) (fun c125 => ?_)
          · exact lp_164 (xput (xput (xput (xput (xput (xput (xput (xput (xput (xput σ 13 0 p) 13 1 q) 13 2 kind) 13 3 0) 13 4 (-1)) 13 5 (-1)) 13 6 1) 13 7 2) 0 15 z119) 6 p.toNat z122) ⟨hF, (by unfold ak1F; rw [if_neg (by omega)]; exact hGa), (show p = p from rfl), (show q = q from rfl), (show kind = kind from rfl), (show 0 = (if gvs f q.toNat kind.toNat lies then f (60 + 13 * q.toNat + kind.toNat) else 0) from (by first | (rw [if_pos (by omega)]; done) | (rw [if_neg (by omega)]; done) | (rw [if_pos (by omega)]; omega) | (rw [if_neg (by omega)]; omega))), (show (-1) = -1 from rfl), (show (-1) = -1 from rfl), (show 1 = (if 0 < f (60 + 13 * q.toNat + kind.toNat) ∧ lies = 1 then 1 else 0) from (by first | (rw [if_pos (by omega)]; done) | (rw [if_neg (by omega)]; done) | (rw [if_pos (by omega)]; omega) | (rw [if_neg (by omega)]; omega))), (show 2 = sureF f q.toNat kind.toNat from (by unfold sureF; rw [show ((kind.toNat : Nat) : Int) = kind from by omega]; first | (rw [if_pos (by omega)]; done) | (rw [if_neg (by omega), if_pos (by omega)]; done) | (rw [if_neg (by omega), if_neg (by omega)]; done)))⟩
          · refine xMVf (sh := shH) (ci := 3) (τ := [0, 1, 2, 3, 4, 5, 6, 7, 8, 9, 10, 11, 12]) (E := xT kX3_reveal) (t := 9) (r := [xvi p, xvi kind]) (σ := (xput (xput (xput (xput (xput (xput (xput (xput (xput (xput σ 13 0 p) 13 1 q) 13 2 kind) 13 3 0) 13 4 (-1)) 13 5 (-1)) 13 6 1) 13 7 2) 0 15 z119) 6 p.toNat z122)) rfl rfl (fun Q126 hQ126 => sX3_revealG (σ := xsel [0, 1, 2, 3, 4, 5, 6, 7, 8, 9, 10, 11, 12] (xput (xput (xput (xput (xput (xput (xput (xput (xput (xput σ 13 0 p) 13 1 q) 13 2 kind) 13 3 0) 13 4 (-1)) 13 5 (-1)) 13 6 1) 13 7 2) 0 15 z119) 6 p.toNat z122)) (f := acF f p.toNat) (p := p) (kind := kind) hp2 hp4 hGa.sel (by omega) (fun ς126 f126 p126 => hQ126 _ _ ?_))
            replace f126 : Fr [9, 10, 11, 12] [] (xput (xput (xput (xput (xput (xput (xput (xput (xput (xput σ 13 0 p) 13 1 q) 13 2 kind) 13 3 0) 13 4 (-1)) 13 5 (-1)) 13 6 1) 13 7 2) 0 15 z119) 6 p.toNat z122) (xbk [0, 1, 2, 3, 4, 5, 6, 7, 8, 9, 10, 11, 12] (xput (xput (xput (xput (xput (xput (xput (xput (xput (xput σ 13 0 p) 13 1 q) 13 2 kind) 13 3 0) 13 4 (-1)) 13 5 (-1)) 13 6 1) 13 7 2) 0 15 z119) 6 p.toNat z122) ς126) := f126.bk0 (by decide) (by decide) (by decide)
            replace p126 : GR (xbk [0, 1, 2, 3, 4, 5, 6, 7, 8, 9, 10, 11, 12] (xput (xput (xput (xput (xput (xput (xput (xput (xput (xput σ 13 0 p) 13 1 q) 13 2 kind) 13 3 0) 13 4 (-1)) 13 5 (-1)) 13 6 1) 13 7 2) 0 15 z119) 6 p.toNat z122) ς126) (learnF (acF f p.toNat) p.toNat kind) := p126.bk
            generalize xbk [0, 1, 2, 3, 4, 5, 6, 7, 8, 9, 10, 11, 12] (xput (xput (xput (xput (xput (xput (xput (xput (xput (xput σ 13 0 p) 13 1 q) 13 2 kind) 13 3 0) 13 4 (-1)) 13 5 (-1)) 13 6 1) 13 7 2) 0 15 z119) 6 p.toNat z122) ς126 = σ126 at f126 p126 ⊢
            have hF := hF.tr f126 (by decide) (by decide)
            have x13 : ∀ j, σ126 13 j = (xput (xput (xput (xput (xput (xput (xput (xput (xput (xput σ 13 0 p) 13 1 q) 13 2 kind) 13 3 0) 13 4 (-1)) 13 5 (-1)) 13 6 1) 13 7 2) 0 15 z119) 6 p.toNat z122) 13 j := fun j => congrFun (f126.1 13 (by decide) (by decide)) j
            exact lp_164 σ126 ⟨hF, (by unfold ak1F; rw [if_pos (by omega), show ((kind.toNat : Nat) : Int) = kind from by omega]; exact p126), (x13 0).trans (show p = p from rfl), (x13 1).trans (show q = q from rfl), (x13 2).trans (show kind = kind from rfl), (x13 3).trans (show 0 = (if gvs f q.toNat kind.toNat lies then f (60 + 13 * q.toNat + kind.toNat) else 0) from (by first | (rw [if_pos (by omega)]; done) | (rw [if_neg (by omega)]; done) | (rw [if_pos (by omega)]; omega) | (rw [if_neg (by omega)]; omega))), (x13 4).trans (show (-1) = -1 from rfl), (x13 5).trans (show (-1) = -1 from rfl), (x13 6).trans (show 1 = (if 0 < f (60 + 13 * q.toNat + kind.toNat) ∧ lies = 1 then 1 else 0) from (by first | (rw [if_pos (by omega)]; done) | (rw [if_neg (by omega)]; done) | (rw [if_pos (by omega)]; omega) | (rw [if_neg (by omega)]; omega))), (x13 7).trans (show 2 = sureF f q.toNat kind.toNat from (by unfold sureF; rw [show ((kind.toNat : Nat) : Int) = kind from by omega]; first | (rw [if_pos (by omega)]; done) | (rw [if_neg (by omega), if_pos (by omega)]; done) | (rw [if_neg (by omega), if_neg (by omega)]; done)))⟩
  refine And.intro (fun c127 => ?_) (fun c127 => ?_)
  · exact lp_22 () (fun z => by have a := z.1; have b := z.2; omega)
  · refine And.intro (fun c128 => ?_) (fun c128 => ?_)
    · exact lp_22 () (fun z => by have a := z.1; have b := z.2; omega)
    · refine And.intro (Nat.le_of_ble_eq_true rfl) ?_
      show xw _ _ _ _ _ _ _ _ _ _ [xvr 0, xvi p, xvi q, xvi kind, xvi lies, xvr 13, xvi r1, xvi 1, xvu] _ _
      refine hX 400 25 _ _ ?_
      have lp_164 : ∀ (s1 : xS), (Fr [2, 3, 5, 6, 7, 8, 9, 10, 11, 12, 13] [8, 14, 15, 16] σ s1 ∧ GR s1 (ak1F f p.toNat kind.toNat) ∧ s1 13 0 = p ∧ s1 13 1 = q ∧ s1 13 2 = kind ∧ s1 13 3 = (if gvs f q.toNat kind.toNat lies then f (60 + 13 * q.toNat + kind.toNat) else 0) ∧ s1 13 4 = -1 ∧ s1 13 5 = -1 ∧ s1 13 6 = (if 0 < f (60 + 13 * q.toNat + kind.toNat) ∧ lies = 1 then 1 else 0) ∧ s1 13 7 = sureF f q.toNat kind.toNat) → X 164 [xvr 0, xvi p, xvi q, xvi kind, xvi lies, xvr 13, xvi r1, xvi 1, xvu] s1 := by
        intro s1 hv_164
        obtain ⟨hF, hG, z0, z1, z2, z3, z4, z5, z6, z7⟩ := hv_164
        obtain ⟨hVk, ok, _⟩ := hp1.ak (a := p.toNat) (kind := kind.toNat) (by omega) (by omega) (by omega)
        have ok1 := ok 1 (by omega)
        have ok2 := ok 2 (by omega)
        have ok6 := ok 6 (by omega)
        have okq := ok (60 + 13 * q.toNat + kind.toNat) (by omega)
        obtain ⟨hVm, om, om6, omN⟩ := hp1.akm (a := p.toNat) (b := q.toNat) (kind := kind.toNat) (lies := lies) (by omega) (by omega) (by omega) (by omega) (by omega) (by omega) (by omega)
        have om1 := om 1 (by omega)
        refine hX 400 164 _ _ ?_
        refine And.intro (fun c130 => absurd c130 (by decide)) (fun _ => ?_)
        have hgs : gvs f q.toNat kind.toNat lies := ⟨by omega, by omega⟩
        have eM : (akM f p.toNat q.toNat kind.toNat lies) = booksF (gvI (ak1F f p.toNat kind.toNat) p.toNat q.toNat kind.toNat) p.toNat kind.toNat := if_pos hgs
        have eN : (akN f p.toNat q.toNat kind.toNat lies) = p := (if_pos hgs).trans (by omega)
        rw [if_pos hgs] at z3
        refine sX2_giveG (σ := s1) (f := (ak1F f p.toNat kind.toNat)) (p := p) (q := q) (kind := kind) hG hVk hp2 hp3 hp4 (by omega) hp6 (by omega) (by omega) (fun r131 σ131 f131 p131 => ?_)
        have hF := hF.tr f131 (by decide) (by decide)
        rw [← eM] at p131
        have w3 := (p131.2.2.2 3 (by decide)).trans z3
        have hGM : GR σ131 (akM f p.toNat q.toNat kind.toNat lies) := p131.1
        have hr8 : r131 = (akN f p.toNat q.toNat kind.toNat lies) := p131.2.1.trans eN.symm
        have g6 : σ131 0 16 = (akM f p.toNat q.toNat kind.toNat lies) 6 := hGM.n1 (i := 6) (by decide)
        have g1 : σ131 0 1 = (akM f p.toNat q.toNat kind.toNat lies) 1 := hGM.n0 (i := 1) (by decide)
        have w13 : ∀ i : Nat, i < 8 → σ131 13 i = askR f p.toNat q.toNat kind.toNat lies i := by
          intro i hi
          have h8 : i = 0 ∨ i = 1 ∨ i = 2 ∨ i = 3 ∨ i = 4 ∨ i = 5 ∨ i = 6 ∨ i = 7 := by omega
          rcases h8 with rfl | rfl | rfl | rfl | rfl | rfl | rfl | rfl
          · exact (p131.2.2.2 0 (by decide)).trans (z0.trans (show p = ((p.toNat : Nat) : Int) from by omega))
          · exact (p131.2.2.2 1 (by decide)).trans (z1.trans (show q = ((q.toNat : Nat) : Int) from by omega))
          · exact (p131.2.2.2 2 (by decide)).trans (z2.trans (show kind = ((kind.toNat : Nat) : Int) from by omega))
          · exact w3.trans (by show _ = (if gvs f q.toNat kind.toNat lies then f (60 + 13 * q.toNat + kind.toNat) else 0); rw [if_pos hgs])
          · show σ131 13 4 = (if gvs f q.toNat kind.toNat lies then -1 else if denF (ak1F f p.toNat kind.toNat) q.toNat kind.toNat 7 = 0 then -1 else denF (ak1F f p.toNat kind.toNat) q.toNat kind.toNat 8)
            rw [if_pos hgs]
            exact (p131.2.2.2 4 (by decide)).trans z4
          · show σ131 13 5 = (if gvs f q.toNat kind.toNat lies then lyF (gvI (ak1F f p.toNat kind.toNat) p.toNat q.toNat kind.toNat) p.toNat kind.toNat else if denF (ak1F f p.toNat kind.toNat) q.toNat kind.toNat 7 = 0 then -1 else lyF (dcM (up (denF (ak1F f p.toNat kind.toNat) q.toNat kind.toNat) 6 0) p.toNat (noS (denF (ak1F f p.toNat kind.toNat) q.toNat kind.toNat) kind.toNat)) p.toNat (denF (ak1F f p.toNat kind.toNat) q.toNat kind.toNat 8).toNat)
            rw [if_pos hgs]
            have y := p131.2.2.1; rw [z5] at y; exact y
          · exact (p131.2.2.2 6 (by decide)).trans z6
          · exact (p131.2.2.2 7 (by decide)).trans z7
        refine And.intro (Nat.le_of_ble_eq_true rfl) ?_
        show xw _ _ _ _ _ _ _ _ _ _ [xvr 0, xvi p, xvi q, xvi kind, xvi lies, xvr 13, xvi r1, xvi 1, xvi r131] _ _
        have lp_217 : ∀ (s2 : xS), (Fr [2, 3, 5, 6, 7, 8, 9, 10, 11, 12, 13] [8, 14, 15, 16] σ s2 ∧ (GR s2 (askF f p.toNat q.toNat kind.toNat lies) ∧ s2 0 14 = askF f p.toNat q.toNat kind.toNat lies 4) ∧ ∀ i : Nat, i < 8 → s2 13 i = askR f p.toNat q.toNat kind.toNat lies i) → X 217 [xvr 0, xvi p, xvi q, xvi kind, xvi lies, xvr 13, xvi r1, xvi 1, xvi r131] s2 := by
          intro s2 hv_217
          obtain ⟨hF, hE, hY⟩ := hv_217
          refine hX 400 217 _ _ ?_
          refine And.intro (rfl) (And.intro (⟨by omega, by omega⟩) ?_)
          intro v133 e133 l133 h133
          have e133 : v133 = s2 13 3 := e133
          refine And.intro rfl ?_
          exact hQ _ _ hF ⟨hE, (by have y := hY 3 (by decide); omega), hY⟩
        intro v134 e134 l134 h134
        have e134 : v134 = σ131 0 16 := e134
        intro v135 e135 l135 h135
        have e135 : v135 = σ131 0 1 := e135
        refine And.intro (fun c136 => ?_) (fun c136 => ?_)
        · have hne : ¬ (akM f p.toNat q.toNat kind.toNat lies) 6 = (akM f p.toNat q.toNat kind.toNat lies) 1 := by omega
          refine xMVf (sh := shH) (ci := 2) (τ := [0, 1, 2, 3, 4, 5, 6, 7, 8, 9, 10, 11, 12]) (E := xT kX2_settle) (t := 0) (r := [xvi r131]) (σ := σ131) rfl rfl (fun Q137 hQ137 => sX2_settleG (σ := xsel [0, 1, 2, 3, 4, 5, 6, 7, 8, 9, 10, 11, 12] σ131) (f := (akM f p.toNat q.toNat kind.toNat lies)) (fr := r131) hGM.sel hVm (by omega) (fun _ => by omega) (fun ς137 f137 p137 => hQ137 _ _ ?_))
          replace f137 : Fr [2, 3, 5, 8, 9, 10, 11, 12] [8, 14] σ131 (xbk [0, 1, 2, 3, 4, 5, 6, 7, 8, 9, 10, 11, 12] σ131 ς137) := f137.bk0 (by decide) (by decide) (by decide)
          replace p137 : GR (xbk [0, 1, 2, 3, 4, 5, 6, 7, 8, 9, 10, 11, 12] σ131 ς137) (stF (akM f p.toNat q.toNat kind.toNat lies) r131) ∧ (xbk [0, 1, 2, 3, 4, 5, 6, 7, 8, 9, 10, 11, 12] σ131 ς137) 0 14 = stF (akM f p.toNat q.toNat kind.toNat lies) r131 4 := ⟨p137.1.bk, p137.2⟩
          generalize xbk [0, 1, 2, 3, 4, 5, 6, 7, 8, 9, 10, 11, 12] σ131 ς137 = σ137 at f137 p137 ⊢
          have hF := hF.tr f137 (by decide) (by decide)
          have hend : GR σ137 (askF f p.toNat q.toNat kind.toNat lies) ∧ σ137 0 14 = askF f p.toNat q.toNat kind.toNat lies 4 := by
            rw [askF_m]
            unfold finF
            rw [if_neg hne, ← hr8]
            exact p137
          have y13 : ∀ i : Nat, i < 8 → σ137 13 i = askR f p.toNat q.toNat kind.toNat lies i := fun i hi => (congrFun (f137.1 13 (by decide) (by decide)) i).trans (w13 i hi)
          exact lp_217 σ137 ⟨hF, hend, y13⟩
        · have hF := hF.p (j := 14) (v := (-1)) (by decide)
          exact lp_217 (xput σ131 0 14 (-1)) ⟨hF, (by
                rw [askF_m]
                unfold finF
                rw [if_pos (by omega)]
                exact ⟨(hGM.fr (ts := []) (js := [14]) (Fr.rf.p (by decide))).f4, by rw [up_s]; rfl⟩), w13⟩
      refine And.intro (rfl) (And.intro (⟨by omega, by omega⟩) ?_)
      have hF := hF.pt (t := 13) (j := 0) (v := p) (by decide) (by decide)
      refine And.intro (rfl) (And.intro (⟨by omega, by omega⟩) ?_)
      have hF := hF.pt (t := 13) (j := 1) (v := q) (by decide) (by decide)
      refine And.intro (rfl) (And.intro (⟨by omega, by omega⟩) ?_)
      have hF := hF.pt (t := 13) (j := 2) (v := kind) (by decide) (by decide)
      refine And.intro (fun c142 => absurd c142 (by decide)) (fun _ => ?_)
      refine And.intro (rfl) (And.intro (⟨by omega, by omega⟩) ?_)
      have hF := hF.pt (t := 13) (j := 3) (v := r1) (by decide) (by decide)
      refine hX 400 55 _ _ ?_
      refine And.intro (rfl) (And.intro (⟨by omega, by omega⟩) ?_)
      have hF := hF.pt (t := 13) (j := 4) (v := (-1)) (by decide) (by decide)
      refine And.intro (rfl) (And.intro (⟨by omega, by omega⟩) ?_)
      have hF := hF.pt (t := 13) (j := 5) (v := (-1)) (by decide) (by decide)
      refine And.intro (fun c146 => ?_) (fun c146 => ?_)
      · refine And.intro (rfl) (And.intro (⟨by omega, by omega⟩) ?_)
        have hF := hF.pt (t := 13) (j := 6) (v := 0) (by decide) (by decide)
        refine hX 400 85 _ _ ?_
        refine xMVp (sh := shH) (ci := 3) (τ := [0, 1, 2, 3, 4, 5, 6, 7, 8, 9, 10, 11, 12]) (E := xT kX3_sureOf) (t := 9) (r := [xvi q, xvi kind]) (σ := (xput (xput (xput (xput (xput (xput (xput σ 13 0 p) 13 1 q) 13 2 kind) 13 3 r1) 13 4 (-1)) 13 5 (-1)) 13 6 0)) rfl rfl xbk_sel (fun Q148 hQ148 => sX3_sureOf (σ := xsel [0, 1, 2, 3, 4, 5, 6, 7, 8, 9, 10, 11, 12] (xput (xput (xput (xput (xput (xput (xput σ 13 0 p) 13 1 q) 13 2 kind) 13 3 r1) 13 4 (-1)) 13 5 (-1)) 13 6 0)) (p := q) (kind := kind) hp3 hp4 (fun r148 p148 => hQ148 _ ?_))
        have p148 : r148 = σ 10 (13 * q + kind).toNat := p148
        rw [hp0.vk hp3 hp4] at p148
        refine And.intro (fun c149 => ?_) (fun c149 => ?_)
        · have hGs : GR (xput (xput (xput (xput (xput (xput (xput σ 13 0 p) 13 1 q) 13 2 kind) 13 3 r1) 13 4 (-1)) 13 5 (-1)) 13 6 0) f := hp0.fr (ts := [13]) (js := []) (by repeat (first | exact Fr.rf | refine Fr.pt ?_ (by decide) (by decide)))
          refine xMVp (sh := shH) (ci := 3) (τ := [0, 1, 2, 3, 4, 5, 6, 7, 8, 9, 10, 11, 12]) (E := xT kX3_mayBe) (t := 9) (r := [xvi q, xvi kind]) (σ := (xput (xput (xput (xput (xput (xput (xput σ 13 0 p) 13 1 q) 13 2 kind) 13 3 r1) 13 4 (-1)) 13 5 (-1)) 13 6 0)) rfl rfl xbk_sel (fun Q150 hQ150 => sX3_mayBeG (σ := xsel [0, 1, 2, 3, 4, 5, 6, 7, 8, 9, 10, 11, 12] (xput (xput (xput (xput (xput (xput (xput σ 13 0 p) 13 1 q) 13 2 kind) 13 3 r1) 13 4 (-1)) 13 5 (-1)) 13 6 0)) (f := f) (p := q) (kind := kind) hGs.sel hp3 hp4 (fun r150 p150 => hQ150 _ ?_))
          have p150 : r150 = canF f q.toNat kind := p150
          refine And.intro (fun c151 => ?_) (fun c151 => ?_)
          · refine And.intro (rfl) (And.intro (⟨by omega, by omega⟩) ?_)
            have hF := hF.pt (t := 13) (j := 7) (v := 0) (by decide) (by decide)
            refine hX 400 123 _ _ ?_
            have hGs : GR (xput (xput (xput (xput (xput (xput (xput (xput σ 13 0 p) 13 1 q) 13 2 kind) 13 3 r1) 13 4 (-1)) 13 5 (-1)) 13 6 0) 13 7 0) f := hp0.fr (ts := [13]) (js := []) (by repeat (first | exact Fr.rf | refine Fr.pt ?_ (by decide) (by decide)))
            have n5 : σ 0 15 = f 5 := hp0.n1 (i := 5) (by decide)
            have n553 : σ 6 p.toNat = f (553 + p.toNat) := by
              have z := hp0.1 _ _ _ _ (mp_as (j := p.toNat) (by omega))
              omega
            intro v153 e153 l153 h153
            have e153 : v153 = σ 0 15 := e153
            intro z154 t154 e154 l154 h154
            try have w154 : t154 = 0 := by omega
            have hF := hF.p (j := 15) (v := z154) (by decide)
            refine And.intro (rfl) (And.intro (⟨by omega, by omega⟩) ?_)
            intro v156 e156 l156 h156
            have e156 : v156 = σ 6 p.toNat := e156
            intro z157 t157 e157 l157 h157
            try have w157 : t157 = 0 := by omega
            refine And.intro (rfl) (And.intro (⟨by omega, by omega⟩) ?_)
            have hF := hF.pt (t := 6) (j := p.toNat) (v := z157) (by decide) (by decide)
            have hGa : GR (xput (xput (xput (xput (xput (xput (xput (xput (xput (xput σ 13 0 p) 13 1 q) 13 2 kind) 13 3 r1) 13 4 (-1)) 13 5 (-1)) 13 6 0) 13 7 0) 0 15 z154) 6 p.toNat z157) (acF f p.toNat) := (hGs.num (i := 5) (t := 0) (j := 15) (c := 0) (v := wr (f 5 + 1)) (w := z154) (by decide) (by unfold wr; omega) (by decide) (by decide)).num (mp_as (j := p.toNat) (by omega)) (v := wr (f (553 + p.toNat) + 1)) (w := z157) (by unfold wr; omega) (by decide) (by omega)
            obtain ⟨hVa, oa⟩ := hp1.ac (a := p.toNat) (by omega)
            have oak := oa (151 + 13 * p.toNat + kind.toNat) (by omega) (by omega)
            refine xMVp (sh := shH) (ci := 3) (τ := [0, 1, 2, 3, 4, 5, 6, 7, 8, 9, 10, 11, 12]) (E := xT kX3_sureOf) (t := 9) (r := [xvi p, xvi kind]) (σ := (xput (xput (xput (xput (xput (xput (xput (xput (xput (xput σ 13 0 p) 13 1 q) 13 2 kind) 13 3 r1) 13 4 (-1)) 13 5 (-1)) 13 6 0) 13 7 0) 0 15 z154) 6 p.toNat z157)) rfl rfl xbk_sel (fun Q159 hQ159 => sX3_sureOf (σ := xsel [0, 1, 2, 3, 4, 5, 6, 7, 8, 9, 10, 11, 12] (xput (xput (xput (xput (xput (xput (xput (xput (xput (xput σ 13 0 p) 13 1 q) 13 2 kind) 13 3 r1) 13 4 (-1)) 13 5 (-1)) 13 6 0) 13 7 0) 0 15 z154) 6 p.toNat z157)) (p := p) (kind := kind) hp2 hp4 (fun r159 p159 => hQ159 _ ?_))
            have p159 : r159 = (xput (xput (xput (xput (xput (xput (xput (xput (xput (xput σ 13 0 p) 13 1 q) 13 2 kind) 13 3 r1) 13 4 (-1)) 13 5 (-1)) 13 6 0) 13 7 0) 0 15 z154) 6 p.toNat z157) 10 (13 * p + kind).toNat := p159
            have p159 := p159.trans ((hGa.vk hp2 hp4).trans oak)
            refine And.intro (fun c160 => ?_) (fun c160 => ?_)
            · exact lp_164 (xput (xput (xput (xput (xput (xput (xput (xput (xput (xput σ 13 0 p) 13 1 q) 13 2 kind) 13 3 r1) 13 4 (-1)) 13 5 (-1)) 13 6 0) 13 7 0) 0 15 z154) 6 p.toNat z157) ⟨hF, (by unfold ak1F; rw [if_neg (by omega)]; exact hGa), (show p = p from rfl), (show q = q from rfl), (show kind = kind from rfl), (show r1 = (if gvs f q.toNat kind.toNat lies then f (60 + 13 * q.toNat + kind.toNat) else 0) from (by first | (rw [if_pos (by omega)]; done) | (rw [if_neg (by omega)]; done) | (rw [if_pos (by omega)]; omega) | (rw [if_neg (by omega)]; omega))), (show (-1) = -1 from rfl), (show (-1) = -1 from rfl), (show 0 = (if 0 < f (60 + 13 * q.toNat + kind.toNat) ∧ lies = 1 then 1 else 0) from (by first | (rw [if_pos (by omega)]; done) | (rw [if_neg (by omega)]; done) | (rw [if_pos (by omega)]; omega) | (rw [if_neg (by omega)]; omega))), (show 0 = sureF f q.toNat kind.toNat from (by unfold sureF; rw [show ((kind.toNat : Nat) : Int) = kind from by omega]; first | (rw [if_pos (by omega)]; done) | (rw [if_neg (by omega), if_pos (by omega)]; done) | (rw [if_neg (by omega), if_neg (by omega)]; done)))⟩
            · refine xMVf (sh := shH) (ci := 3) (τ := [0, 1, 2, 3, 4, 5, 6, 7, 8, 9, 10, 11, 12]) (E := xT kX3_reveal) (t := 9) (r := [xvi p, xvi kind]) (σ := (xput (xput (xput (xput (xput (xput (xput (xput (xput (xput σ 13 0 p) 13 1 q) 13 2 kind) 13 3 r1) 13 4 (-1)) 13 5 (-1)) 13 6 0) 13 7 0) 0 15 z154) 6 p.toNat z157)) rfl rfl (fun Q161 hQ161 => sX3_revealG (σ := xsel [0, 1, 2, 3, 4, 5, 6, 7, 8, 9, 10, 11, 12] (xput (xput (xput (xput (xput (xput (xput (xput (xput (xput σ 13 0 p) 13 1 q) 13 2 kind) 13 3 r1) 13 4 (-1)) 13 5 (-1)) 13 6 0) 13 7 0) 0 15 z154) 6 p.toNat z157)) (f := acF f p.toNat) (p := p) (kind := kind) hp2 hp4 hGa.sel (by omega) (fun ς161 f161 p161 => hQ161 _ _ ?_))
              replace f161 : Fr [9, 10, 11, 12] [] (xput (xput (xput (xput (xput (xput (xput (xput (xput (xput σ 13 0 p) 13 1 q) 13 2 kind) 13 3 r1) 13 4 (-1)) 13 5 (-1)) 13 6 0) 13 7 0) 0 15 z154) 6 p.toNat z157) (xbk [0, 1, 2, 3, 4, 5, 6, 7, 8, 9, 10, 11, 12] (xput (xput (xput (xput (xput (xput (xput (xput (xput (xput σ 13 0 p) 13 1 q) 13 2 kind) 13 3 r1) 13 4 (-1)) 13 5 (-1)) 13 6 0) 13 7 0) 0 15 z154) 6 p.toNat z157) ς161) := f161.bk0 (by decide) (by decide) (by decide)
              replace p161 : GR (xbk [0, 1, 2, 3, 4, 5, 6, 7, 8, 9, 10, 11, 12] (xput (xput (xput (xput (xput (xput (xput (xput (xput (xput σ 13 0 p) 13 1 q) 13 2 kind) 13 3 r1) 13 4 (-1)) 13 5 (-1)) 13 6 0) 13 7 0) 0 15 z154) 6 p.toNat z157) ς161) (learnF (acF f p.toNat) p.toNat kind) := p161.bk
              generalize xbk [0, 1, 2, 3, 4, 5, 6, 7, 8, 9, 10, 11, 12] (xput (xput (xput (xput (xput (xput (xput (xput (xput (xput σ 13 0 p) 13 1 q) 13 2 kind) 13 3 r1) 13 4 (-1)) 13 5 (-1)) 13 6 0) 13 7 0) 0 15 z154) 6 p.toNat z157) ς161 = σ161 at f161 p161 ⊢
              have hF := hF.tr f161 (by decide) (by decide)
              have x13 : ∀ j, σ161 13 j = (xput (xput (xput (xput (xput (xput (xput (xput (xput (xput σ 13 0 p) 13 1 q) 13 2 kind) 13 3 r1) 13 4 (-1)) 13 5 (-1)) 13 6 0) 13 7 0) 0 15 z154) 6 p.toNat z157) 13 j := fun j => congrFun (f161.1 13 (by decide) (by decide)) j
              exact lp_164 σ161 ⟨hF, (by unfold ak1F; rw [if_pos (by omega), show ((kind.toNat : Nat) : Int) = kind from by omega]; exact p161), (x13 0).trans (show p = p from rfl), (x13 1).trans (show q = q from rfl), (x13 2).trans (show kind = kind from rfl), (x13 3).trans (show r1 = (if gvs f q.toNat kind.toNat lies then f (60 + 13 * q.toNat + kind.toNat) else 0) from (by first | (rw [if_pos (by omega)]; done) | (rw [if_neg (by omega)]; done) | (rw [if_pos (by omega)]; omega) | (rw [if_neg (by omega)]; omega))), (x13 4).trans (show (-1) = -1 from rfl), (x13 5).trans (show (-1) = -1 from rfl), (x13 6).trans (show 0 = (if 0 < f (60 + 13 * q.toNat + kind.toNat) ∧ lies = 1 then 1 else 0) from (by first | (rw [if_pos (by omega)]; done) | (rw [if_neg (by omega)]; done) | (rw [if_pos (by omega)]; omega) | (rw [if_neg (by omega)]; omega))), (x13 7).trans (show 0 = sureF f q.toNat kind.toNat from (by unfold sureF; rw [show ((kind.toNat : Nat) : Int) = kind from by omega]; first | (rw [if_pos (by omega)]; done) | (rw [if_neg (by omega), if_pos (by omega)]; done) | (rw [if_neg (by omega), if_neg (by omega)]; done)))⟩
          · refine And.intro (rfl) (And.intro (⟨by omega, by omega⟩) ?_)
            have hF := hF.pt (t := 13) (j := 7) (v := 1) (by decide) (by decide)
            refine hX 400 123 _ _ ?_
            have hGs : GR (xput (xput (xput (xput (xput (xput (xput (xput σ 13 0 p) 13 1 q) 13 2 kind) 13 3 r1) 13 4 (-1)) 13 5 (-1)) 13 6 0) 13 7 1) f := hp0.fr (ts := [13]) (js := []) (by repeat (first | exact Fr.rf | refine Fr.pt ?_ (by decide) (by decide)))
            have n5 : σ 0 15 = f 5 := hp0.n1 (i := 5) (by decide)
            have n553 : σ 6 p.toNat = f (553 + p.toNat) := by
              have z := hp0.1 _ _ _ _ (mp_as (j := p.toNat) (by omega))
              omega
            intro v163 e163 l163 h163
            have e163 : v163 = σ 0 15 := e163
            intro z164 t164 e164 l164 h164
            try have w164 : t164 = 0 := by omega
            have hF := hF.p (j := 15) (v := z164) (by decide)
            refine And.intro (rfl) (And.intro (⟨by omega, by omega⟩) ?_)
            intro v166 e166 l166 h166
            have e166 : v166 = σ 6 p.toNat := e166
            intro z167 t167 e167 l167 h167
            try have w167 : t167 = 0 := by omega
            refine And.intro (rfl) (And.intro (⟨by omega, by omega⟩) ?_)
            have hF := hF.pt (t := 6) (j := p.toNat) (v := z167) (by decide) (by decide)
            have hGa : GR (xput (xput (xput (xput (xput (xput (xput (xput (xput (xput σ 13 0 p) 13 1 q) 13 2 kind) 13 3 r1) 13 4 (-1)) 13 5 (-1)) 13 6 0) 13 7 1) 0 15 z164) 6 p.toNat z167) (acF f p.toNat) := (hGs.num (i := 5) (t := 0) (j := 15) (c := 0) (v := wr (f 5 + 1)) (w := z164) (by decide) (by unfold wr; omega) (by decide) (by decide)).num (mp_as (j := p.toNat) (by omega)) (v := wr (f (553 + p.toNat) + 1)) (w := z167) (by unfold wr; omega) (by decide) (by omega)
            obtain ⟨hVa, oa⟩ := hp1.ac (a := p.toNat) (by omega)
            have oak := oa (151 + 13 * p.toNat + kind.toNat) (by omega) (by omega)
            refine xMVp (sh := shH) (ci := 3) (τ := [0, 1, 2, 3, 4, 5, 6, 7, 8, 9, 10, 11, 12]) (E := xT kX3_sureOf) (t := 9) (r := [xvi p, xvi kind]) (σ := (xput (xput (xput (xput (xput (xput (xput (xput (xput (xput σ 13 0 p) 13 1 q) 13 2 kind) 13 3 r1) 13 4 (-1)) 13 5 (-1)) 13 6 0) 13 7 1) 0 15 z164) 6 p.toNat z167)) rfl rfl xbk_sel (fun Q169 hQ169 => sX3_sureOf (σ := xsel [0, 1, 2, 3, 4, 5, 6, 7, 8, 9, 10, 11, 12] (xput (xput (xput (xput (xput (xput (xput (xput (xput (xput σ 13 0 p) 13 1 q) 13 2 kind) 13 3 r1) 13 4 (-1)) 13 5 (-1)) 13 6 0) 13 7 1) 0 15 z164) 6 p.toNat z167)) (p := p) (kind := kind) hp2 hp4 (fun r169 p169 => hQ169 _ ?_))
            have p169 : r169 = (xput (xput (xput (xput (xput (xput (xput (xput (xput (xput σ 13 0 p) 13 1 q) 13 2 kind) 13 3 r1) 13 4 (-1)) 13 5 (-1)) 13 6 0) 13 7 1) 0 15 z164) 6 p.toNat z167) 10 (13 * p + kind).toNat := p169
            have p169 := p169.trans ((hGa.vk hp2 hp4).trans oak)
            refine And.intro (fun c170 => ?_) (fun c170 => ?_)
            · exact lp_164 (xput (xput (xput (xput (xput (xput (xput (xput (xput (xput σ 13 0 p) 13 1 q) 13 2 kind) 13 3 r1) 13 4 (-1)) 13 5 (-1)) 13 6 0) 13 7 1) 0 15 z164) 6 p.toNat z167) ⟨hF, (by unfold ak1F; rw [if_neg (by omega)]; exact hGa), (show p = p from rfl), (show q = q from rfl), (show kind = kind from rfl), (show r1 = (if gvs f q.toNat kind.toNat lies then f (60 + 13 * q.toNat + kind.toNat) else 0) from (by first | (rw [if_pos (by omega)]; done) | (rw [if_neg (by omega)]; done) | (rw [if_pos (by omega)]; omega) | (rw [if_neg (by omega)]; omega))), (show (-1) = -1 from rfl), (show (-1) = -1 from rfl), (show 0 = (if 0 < f (60 + 13 * q.toNat + kind.toNat) ∧ lies = 1 then 1 else 0) from (by first | (rw [if_pos (by omega)]; done) | (rw [if_neg (by omega)]; done) | (rw [if_pos (by omega)]; omega) | (rw [if_neg (by omega)]; omega))), (show 1 = sureF f q.toNat kind.toNat from (by unfold sureF; rw [show ((kind.toNat : Nat) : Int) = kind from by omega]; first | (rw [if_pos (by omega)]; done) | (rw [if_neg (by omega), if_pos (by omega)]; done) | (rw [if_neg (by omega), if_neg (by omega)]; done)))⟩
            · refine xMVf (sh := shH) (ci := 3) (τ := [0, 1, 2, 3, 4, 5, 6, 7, 8, 9, 10, 11, 12]) (E := xT kX3_reveal) (t := 9) (r := [xvi p, xvi kind]) (σ := (xput (xput (xput (xput (xput (xput (xput (xput (xput (xput σ 13 0 p) 13 1 q) 13 2 kind) 13 3 r1) 13 4 (-1)) 13 5 (-1)) 13 6 0) 13 7 1) 0 15 z164) 6 p.toNat z167)) rfl rfl (fun Q171 hQ171 => sX3_revealG (σ := xsel [0, 1, 2, 3, 4, 5, 6, 7, 8, 9, 10, 11, 12] (xput (xput (xput (xput (xput (xput (xput (xput (xput (xput σ 13 0 p) 13 1 q) 13 2 kind) 13 3 r1) 13 4 (-1)) 13 5 (-1)) 13 6 0) 13 7 1) 0 15 z164) 6 p.toNat z167)) (f := acF f p.toNat) (p := p) (kind := kind) hp2 hp4 hGa.sel (by omega) (fun ς171 f171 p171 => hQ171 _ _ ?_))
              replace f171 : Fr [9, 10, 11, 12] [] (xput (xput (xput (xput (xput (xput (xput (xput (xput (xput σ 13 0 p) 13 1 q) 13 2 kind) 13 3 r1) 13 4 (-1)) 13 5 (-1)) 13 6 0) 13 7 1) 0 15 z164) 6 p.toNat z167) (xbk [0, 1, 2, 3, 4, 5, 6, 7, 8, 9, 10, 11, 12] (xput (xput (xput (xput (xput (xput (xput (xput (xput (xput σ 13 0 p) 13 1 q) 13 2 kind) 13 3 r1) 13 4 (-1)) 13 5 (-1)) 13 6 0) 13 7 1) 0 15 z164) 6 p.toNat z167) ς171) := f171.bk0 (by decide) (by decide) (by decide)
              replace p171 : GR (xbk [0, 1, 2, 3, 4, 5, 6, 7, 8, 9, 10, 11, 12] (xput (xput (xput (xput (xput (xput (xput (xput (xput (xput σ 13 0 p) 13 1 q) 13 2 kind) 13 3 r1) 13 4 (-1)) 13 5 (-1)) 13 6 0) 13 7 1) 0 15 z164) 6 p.toNat z167) ς171) (learnF (acF f p.toNat) p.toNat kind) := p171.bk
              generalize xbk [0, 1, 2, 3, 4, 5, 6, 7, 8, 9, 10, 11, 12] (xput (xput (xput (xput (xput (xput (xput (xput (xput (xput σ 13 0 p) 13 1 q) 13 2 kind) 13 3 r1) 13 4 (-1)) 13 5 (-1)) 13 6 0) 13 7 1) 0 15 z164) 6 p.toNat z167) ς171 = σ171 at f171 p171 ⊢
              have hF := hF.tr f171 (by decide) (by decide)
              have x13 : ∀ j, σ171 13 j = (xput (xput (xput (xput (xput (xput (xput (xput (xput (xput σ 13 0 p) 13 1 q) 13 2 kind) 13 3 r1) 13 4 (-1)) 13 5 (-1)) 13 6 0) 13 7 1) 0 15 z164) 6 p.toNat z167) 13 j := fun j => congrFun (f171.1 13 (by decide) (by decide)) j
              exact lp_164 σ171 ⟨hF, (by unfold ak1F; rw [if_pos (by omega), show ((kind.toNat : Nat) : Int) = kind from by omega]; exact p171), (x13 0).trans (show p = p from rfl), (x13 1).trans (show q = q from rfl), (x13 2).trans (show kind = kind from rfl), (x13 3).trans (show r1 = (if gvs f q.toNat kind.toNat lies then f (60 + 13 * q.toNat + kind.toNat) else 0) from (by first | (rw [if_pos (by omega)]; done) | (rw [if_neg (by omega)]; done) | (rw [if_pos (by omega)]; omega) | (rw [if_neg (by omega)]; omega))), (x13 4).trans (show (-1) = -1 from rfl), (x13 5).trans (show (-1) = -1 from rfl), (x13 6).trans (show 0 = (if 0 < f (60 + 13 * q.toNat + kind.toNat) ∧ lies = 1 then 1 else 0) from (by first | (rw [if_pos (by omega)]; done) | (rw [if_neg (by omega)]; done) | (rw [if_pos (by omega)]; omega) | (rw [if_neg (by omega)]; omega))), (x13 7).trans (show 1 = sureF f q.toNat kind.toNat from (by unfold sureF; rw [show ((kind.toNat : Nat) : Int) = kind from by omega]; first | (rw [if_pos (by omega)]; done) | (rw [if_neg (by omega), if_pos (by omega)]; done) | (rw [if_neg (by omega), if_neg (by omega)]; done)))⟩
        · refine And.intro (rfl) (And.intro (⟨by omega, by omega⟩) ?_)
          have hF := hF.pt (t := 13) (j := 7) (v := 2) (by decide) (by decide)
          refine hX 400 123 _ _ ?_
          have hGs : GR (xput (xput (xput (xput (xput (xput (xput (xput σ 13 0 p) 13 1 q) 13 2 kind) 13 3 r1) 13 4 (-1)) 13 5 (-1)) 13 6 0) 13 7 2) f := hp0.fr (ts := [13]) (js := []) (by repeat (first | exact Fr.rf | refine Fr.pt ?_ (by decide) (by decide)))
          have n5 : σ 0 15 = f 5 := hp0.n1 (i := 5) (by decide)
          have n553 : σ 6 p.toNat = f (553 + p.toNat) := by
            have z := hp0.1 _ _ _ _ (mp_as (j := p.toNat) (by omega))
            omega
          intro v173 e173 l173 h173
          have e173 : v173 = σ 0 15 := e173
          intro z174 t174 e174 l174 h174
          try have w174 : t174 = 0 := by omega
          have hF := hF.p (j := 15) (v := z174) (by decide)
          refine And.intro (rfl) (And.intro (⟨by omega, by omega⟩) ?_)
          intro v176 e176 l176 h176
          have e176 : v176 = σ 6 p.toNat := e176
          intro z177 t177 e177 l177 h177
          try have w177 : t177 = 0 := by omega
          refine And.intro (rfl) (And.intro (⟨by omega, by omega⟩) ?_)
          have hF := hF.pt (t := 6) (j := p.toNat) (v := z177) (by decide) (by decide)
          have hGa : GR (xput (xput (xput (xput (xput (xput (xput (xput (xput (xput σ 13 0 p) 13 1 q) 13 2 kind) 13 3 r1) 13 4 (-1)) 13 5 (-1)) 13 6 0) 13 7 2) 0 15 z174) 6 p.toNat z177) (acF f p.toNat) := (hGs.num (i := 5) (t := 0) (j := 15) (c := 0) (v := wr (f 5 + 1)) (w := z174) (by decide) (by unfold wr; omega) (by decide) (by decide)).num (mp_as (j := p.toNat) (by omega)) (v := wr (f (553 + p.toNat) + 1)) (w := z177) (by unfold wr; omega) (by decide) (by omega)
          obtain ⟨hVa, oa⟩ := hp1.ac (a := p.toNat) (by omega)
          have oak := oa (151 + 13 * p.toNat + kind.toNat) (by omega) (by omega)
          refine xMVp (sh := shH) (ci := 3) (τ := [0, 1, 2, 3, 4, 5, 6, 7, 8, 9, 10, 11, 12]) (E := xT kX3_sureOf) (t := 9) (r := [xvi p, xvi kind]) (σ := (xput (xput (xput (xput (xput (xput (xput (xput (xput (xput σ 13 0 p) 13 1 q) 13 2 kind) 13 3 r1) 13 4 (-1)) 13 5 (-1)) 13 6 0) 13 7 2) 0 15 z174) 6 p.toNat z177)) rfl rfl xbk_sel (fun Q179 hQ179 => sX3_sureOf (σ := xsel [0, 1, 2, 3, 4, 5, 6, 7, 8, 9, 10, 11, 12] (xput (xput (xput (xput (xput (xput (xput (xput (xput (xput σ 13 0 p) 13 1 q) 13 2 kind) 13 3 r1) 13 4 (-1)) 13 5 (-1)) 13 6 0) 13 7 2) 0 15 z174) 6 p.toNat z177)) (p := p) (kind := kind) hp2 hp4 (fun r179 p179 => hQ179 _ ?_))
          have p179 : r179 = (xput (xput (xput (xput (xput (xput (xput (xput (xput (xput σ 13 0 p) 13 1 q) 13 2 kind) 13 3 r1) 13 4 (-1)) 13 5 (-1)) 13 6 0) 13 7 2) 0 15 z174) 6 p.toNat z177) 10 (13 * p + kind).toNat := p179
          have p179 := p179.trans ((hGa.vk hp2 hp4).trans oak)
          refine And.intro (fun c180 => ?_) (fun c180 => ?_)
          · exact lp_164 (xput (xput (xput (xput (xput (xput (xput (xput (xput (xput σ 13 0 p) 13 1 q) 13 2 kind) 13 3 r1) 13 4 (-1)) 13 5 (-1)) 13 6 0) 13 7 2) 0 15 z174) 6 p.toNat z177) ⟨hF, (by unfold ak1F; rw [if_neg (by omega)]; exact hGa), (show p = p from rfl), (show q = q from rfl), (show kind = kind from rfl), (show r1 = (if gvs f q.toNat kind.toNat lies then f (60 + 13 * q.toNat + kind.toNat) else 0) from (by first | (rw [if_pos (by omega)]; done) | (rw [if_neg (by omega)]; done) | (rw [if_pos (by omega)]; omega) | (rw [if_neg (by omega)]; omega))), (show (-1) = -1 from rfl), (show (-1) = -1 from rfl), (show 0 = (if 0 < f (60 + 13 * q.toNat + kind.toNat) ∧ lies = 1 then 1 else 0) from (by first | (rw [if_pos (by omega)]; done) | (rw [if_neg (by omega)]; done) | (rw [if_pos (by omega)]; omega) | (rw [if_neg (by omega)]; omega))), (show 2 = sureF f q.toNat kind.toNat from (by unfold sureF; rw [show ((kind.toNat : Nat) : Int) = kind from by omega]; first | (rw [if_pos (by omega)]; done) | (rw [if_neg (by omega), if_pos (by omega)]; done) | (rw [if_neg (by omega), if_neg (by omega)]; done)))⟩
          · refine xMVf (sh := shH) (ci := 3) (τ := [0, 1, 2, 3, 4, 5, 6, 7, 8, 9, 10, 11, 12]) (E := xT kX3_reveal) (t := 9) (r := [xvi p, xvi kind]) (σ := (xput (xput (xput (xput (xput (xput (xput (xput (xput (xput σ 13 0 p) 13 1 q) 13 2 kind) 13 3 r1) 13 4 (-1)) 13 5 (-1)) 13 6 0) 13 7 2) 0 15 z174) 6 p.toNat z177)) rfl rfl (fun Q181 hQ181 => sX3_revealG (σ := xsel [0, 1, 2, 3, 4, 5, 6, 7, 8, 9, 10, 11, 12] (xput (xput (xput (xput (xput (xput (xput (xput (xput (xput σ 13 0 p) 13 1 q) 13 2 kind) 13 3 r1) 13 4 (-1)) 13 5 (-1)) 13 6 0) 13 7 2) 0 15 z174) 6 p.toNat z177)) (f := acF f p.toNat) (p := p) (kind := kind) hp2 hp4 hGa.sel (by omega) (fun ς181 f181 p181 => hQ181 _ _ ?_))
            replace f181 : Fr [9, 10, 11, 12] [] (xput (xput (xput (xput (xput (xput (xput (xput (xput (xput σ 13 0 p) 13 1 q) 13 2 kind) 13 3 r1) 13 4 (-1)) 13 5 (-1)) 13 6 0) 13 7 2) 0 15 z174) 6 p.toNat z177) (xbk [0, 1, 2, 3, 4, 5, 6, 7, 8, 9, 10, 11, 12] (xput (xput (xput (xput (xput (xput (xput (xput (xput (xput σ 13 0 p) 13 1 q) 13 2 kind) 13 3 r1) 13 4 (-1)) 13 5 (-1)) 13 6 0) 13 7 2) 0 15 z174) 6 p.toNat z177) ς181) := f181.bk0 (by decide) (by decide) (by decide)
            replace p181 : GR (xbk [0, 1, 2, 3, 4, 5, 6, 7, 8, 9, 10, 11, 12] (xput (xput (xput (xput (xput (xput (xput (xput (xput (xput σ 13 0 p) 13 1 q) 13 2 kind) 13 3 r1) 13 4 (-1)) 13 5 (-1)) 13 6 0) 13 7 2) 0 15 z174) 6 p.toNat z177) ς181) (learnF (acF f p.toNat) p.toNat kind) := p181.bk
            generalize xbk [0, 1, 2, 3, 4, 5, 6, 7, 8, 9, 10, 11, 12] (xput (xput (xput (xput (xput (xput (xput (xput (xput (xput σ 13 0 p) 13 1 q) 13 2 kind) 13 3 r1) 13 4 (-1)) 13 5 (-1)) 13 6 0) 13 7 2) 0 15 z174) 6 p.toNat z177) ς181 = σ181 at f181 p181 ⊢
            have hF := hF.tr f181 (by decide) (by decide)
            have x13 : ∀ j, σ181 13 j = (xput (xput (xput (xput (xput (xput (xput (xput (xput (xput σ 13 0 p) 13 1 q) 13 2 kind) 13 3 r1) 13 4 (-1)) 13 5 (-1)) 13 6 0) 13 7 2) 0 15 z174) 6 p.toNat z177) 13 j := fun j => congrFun (f181.1 13 (by decide) (by decide)) j
            exact lp_164 σ181 ⟨hF, (by unfold ak1F; rw [if_pos (by omega), show ((kind.toNat : Nat) : Int) = kind from by omega]; exact p181), (x13 0).trans (show p = p from rfl), (x13 1).trans (show q = q from rfl), (x13 2).trans (show kind = kind from rfl), (x13 3).trans (show r1 = (if gvs f q.toNat kind.toNat lies then f (60 + 13 * q.toNat + kind.toNat) else 0) from (by first | (rw [if_pos (by omega)]; done) | (rw [if_neg (by omega)]; done) | (rw [if_pos (by omega)]; omega) | (rw [if_neg (by omega)]; omega))), (x13 4).trans (show (-1) = -1 from rfl), (x13 5).trans (show (-1) = -1 from rfl), (x13 6).trans (show 0 = (if 0 < f (60 + 13 * q.toNat + kind.toNat) ∧ lies = 1 then 1 else 0) from (by first | (rw [if_pos (by omega)]; done) | (rw [if_neg (by omega)]; done) | (rw [if_pos (by omega)]; omega) | (rw [if_neg (by omega)]; omega))), (x13 7).trans (show 2 = sureF f q.toNat kind.toNat from (by unfold sureF; rw [show ((kind.toNat : Nat) : Int) = kind from by omega]; first | (rw [if_pos (by omega)]; done) | (rw [if_neg (by omega), if_pos (by omega)]; done) | (rw [if_neg (by omega), if_neg (by omega)]; done)))⟩
      · refine And.intro (fun c182 => ?_) (fun c182 => ?_)
        · refine And.intro (rfl) (And.intro (⟨by omega, by omega⟩) ?_)
          have hF := hF.pt (t := 13) (j := 6) (v := 0) (by decide) (by decide)
          refine hX 400 85 _ _ ?_
          refine xMVp (sh := shH) (ci := 3) (τ := [0, 1, 2, 3, 4, 5, 6, 7, 8, 9, 10, 11, 12]) (E := xT kX3_sureOf) (t := 9) (r := [xvi q, xvi kind]) (σ := (xput (xput (xput (xput (xput (xput (xput σ 13 0 p) 13 1 q) 13 2 kind) 13 3 r1) 13 4 (-1)) 13 5 (-1)) 13 6 0)) rfl rfl xbk_sel (fun Q184 hQ184 => sX3_sureOf (σ := xsel [0, 1, 2, 3, 4, 5, 6, 7, 8, 9, 10, 11, 12] (xput (xput (xput (xput (xput (xput (xput σ 13 0 p) 13 1 q) 13 2 kind) 13 3 r1) 13 4 (-1)) 13 5 (-1)) 13 6 0)) (p := q) (kind := kind) hp3 hp4 (fun r184 p184 => hQ184 _ ?_))
          have p184 : r184 = σ 10 (13 * q + kind).toNat := p184
          rw [hp0.vk hp3 hp4] at p184
          refine And.intro (fun c185 => ?_) (fun c185 => ?_)
          · have hGs : GR (xput (xput (xput (xput (xput (xput (xput σ 13 0 p) 13 1 q) 13 2 kind) 13 3 r1) 13 4 (-1)) 13 5 (-1)) 13 6 0) f := hp0.fr (ts := [13]) (js := []) (by repeat (first | exact Fr.rf | refine Fr.pt ?_ (by decide) (by decide)))
            refine xMVp (sh := shH) (ci := 3) (τ := [0, 1, 2, 3, 4, 5, 6, 7, 8, 9, 10, 11, 12]) (E := xT kX3_mayBe) (t := 9) (r := [xvi q, xvi kind]) (σ := (xput (xput (xput (xput (xput (xput (xput σ 13 0 p) 13 1 q) 13 2 kind) 13 3 r1) 13 4 (-1)) 13 5 (-1)) 13 6 0)) rfl rfl xbk_sel (fun Q186 hQ186 => sX3_mayBeG (σ := xsel [0, 1, 2, 3, 4, 5, 6, 7, 8, 9, 10, 11, 12] (xput (xput (xput (xput (xput (xput (xput σ 13 0 p) 13 1 q) 13 2 kind) 13 3 r1) 13 4 (-1)) 13 5 (-1)) 13 6 0)) (f := f) (p := q) (kind := kind) hGs.sel hp3 hp4 (fun r186 p186 => hQ186 _ ?_))
            have p186 : r186 = canF f q.toNat kind := p186
            refine And.intro (fun c187 => ?_) (fun c187 => ?_)
            · refine And.intro (rfl) (And.intro (⟨by omega, by omega⟩) ?_)
              have hF := hF.pt (t := 13) (j := 7) (v := 0) (by decide) (by decide)
              refine hX 400 123 _ _ ?_
              have hGs : GR (xput (xput (xput (xput (xput (xput (xput (xput σ 13 0 p) 13 1 q) 13 2 kind) 13 3 r1) 13 4 (-1)) 13 5 (-1)) 13 6 0) 13 7 0) f := hp0.fr (ts := [13]) (js := []) (by repeat (first | exact Fr.rf | refine Fr.pt ?_ (by decide) (by decide)))
              have n5 : σ 0 15 = f 5 := hp0.n1 (i := 5) (by decide)
              have n553 : σ 6 p.toNat = f (553 + p.toNat) := by
                have z := hp0.1 _ _ _ _ (mp_as (j := p.toNat) (by omega))
                omega
              intro v189 e189 l189 h189
              have e189 : v189 = σ 0 15 := e189
              intro z190 t190 e190 l190 h190
              try have w190 : t190 = 0 := by omega
              have hF := hF.p (j := 15) (v := z190) (by decide)
              refine And.intro (rfl) (And.intro (⟨by omega, by omega⟩) ?_)
              intro v192 e192 l192 h192
              have e192 : v192 = σ 6 p.toNat := e192
              intro z193 t193 e193 l193 h193
              try have w193 : t193 = 0 := by omega
              refine And.intro (rfl) (And.intro (⟨by omega, by omega⟩) ?_)
              have hF := hF.pt (t := 6) (j := p.toNat) (v := z193) (by decide) (by decide)
              have hGa : GR (xput (xput (xput (xput (xput (xput (xput (xput (xput (xput σ 13 0 p) 13 1 q) 13 2 kind) 13 3 r1) 13 4 (-1)) 13 5 (-1)) 13 6 0) 13 7 0) 0 15 z190) 6 p.toNat z193) (acF f p.toNat) := (hGs.num (i := 5) (t := 0) (j := 15) (c := 0) (v := wr (f 5 + 1)) (w := z190) (by decide) (by unfold wr; omega) (by decide) (by decide)).num (mp_as (j := p.toNat) (by omega)) (v := wr (f (553 + p.toNat) + 1)) (w := z193) (by unfold wr; omega) (by decide) (by omega)
              obtain ⟨hVa, oa⟩ := hp1.ac (a := p.toNat) (by omega)
              have oak := oa (151 + 13 * p.toNat + kind.toNat) (by omega) (by omega)
              refine xMVp (sh := shH) (ci := 3) (τ := [0, 1, 2, 3, 4, 5, 6, 7, 8, 9, 10, 11, 12]) (E := xT kX3_sureOf) (t := 9) (r := [xvi p, xvi kind]) (σ := (xput (xput (xput (xput (xput (xput (xput (xput (xput (xput σ 13 0 p) 13 1 q) 13 2 kind) 13 3 r1) 13 4 (-1)) 13 5 (-1)) 13 6 0) 13 7 0) 0 15 z190) 6 p.toNat z193)) rfl rfl xbk_sel (fun Q195 hQ195 => sX3_sureOf (σ := xsel [0, 1, 2, 3, 4, 5, 6, 7, 8, 9, 10, 11, 12] (xput (xput (xput (xput (xput (xput (xput (xput (xput (xput σ 13 0 p) 13 1 q) 13 2 kind) 13 3 r1) 13 4 (-1)) 13 5 (-1)) 13 6 0) 13 7 0) 0 15 z190) 6 p.toNat z193)) (p := p) (kind := kind) hp2 hp4 (fun r195 p195 => hQ195 _ ?_))
              have p195 : r195 = (xput (xput (xput (xput (xput (xput (xput (xput (xput (xput σ 13 0 p) 13 1 q) 13 2 kind) 13 3 r1) 13 4 (-1)) 13 5 (-1)) 13 6 0) 13 7 0) 0 15 z190) 6 p.toNat z193) 10 (13 * p + kind).toNat := p195
              have p195 := p195.trans ((hGa.vk hp2 hp4).trans oak)
              refine And.intro (fun c196 => ?_) (fun c196 => ?_)
              · exact lp_164 (xput (xput (xput (xput (xput (xput (xput (xput (xput (xput σ 13 0 p) 13 1 q) 13 2 kind) 13 3 r1) 13 4 (-1)) 13 5 (-1)) 13 6 0) 13 7 0) 0 15 z190) 6 p.toNat z193) ⟨hF, (by unfold ak1F; rw [if_neg (by omega)]; exact hGa), (show p = p from rfl), (show q = q from rfl), (show kind = kind from rfl), (show r1 = (if gvs f q.toNat kind.toNat lies then f (60 + 13 * q.toNat + kind.toNat) else 0) from (by first | (rw [if_pos (by omega)]; done) | (rw [if_neg (by omega)]; done) | (rw [if_pos (by omega)]; omega) | (rw [if_neg (by omega)]; omega))), (show (-1) = -1 from rfl), (show (-1) = -1 from rfl), (show 0 = (if 0 < f (60 + 13 * q.toNat + kind.toNat) ∧ lies = 1 then 1 else 0) from (by first | (rw [if_pos (by omega)]; done) | (rw [if_neg (by omega)]; done) | (rw [if_pos (by omega)]; omega) | (rw [if_neg (by omega)]; omega))), (show 0 = sureF f q.toNat kind.toNat from (by unfold sureF; rw [show ((kind.toNat : Nat) : Int) = kind from by omega]; first | (rw [if_pos (by omega)]; done) | (rw [if_neg (by omega), if_pos (by omega)]; done) | (rw [if_neg (by omega), if_neg (by omega)]; done)))⟩
              · refine xMVf (sh := shH) (ci := 3) (τ := [0, 1, 2, 3, 4, 5, 6, 7, 8, 9, 10, 11, 12]) (E := xT kX3_reveal) (t := 9) (r := [xvi p, xvi kind]) (σ := (xput (xput (xput (xput (xput (xput (xput (xput (xput (xput σ 13 0 p) 13 1 q) 13 2 kind) 13 3 r1) 13 4 (-1)) 13 5 (-1)) 13 6 0) 13 7 0) 0 15 z190) 6 p.toNat z193)) rfl rfl (fun Q197 hQ197 => sX3_revealG (σ := xsel [0, 1, 2, 3, 4, 5, 6, 7, 8, 9, 10, 11, 12] (xput (xput (xput (xput (xput (xput (xput (xput (xput (xput σ 13 0 p) 13 1 q) 13 2 kind) 13 3 r1) 13 4 (-1)) 13 5 (-1)) 13 6 0) 13 7 0) 0 15 z190) 6 p.toNat z193)) (f := acF f p.toNat) (p := p) (kind := kind) hp2 hp4 hGa.sel (by omega) (fun ς197 f197 p197 => hQ197 _ _ ?_))
                replace f197 : Fr [9, 10, 11, 12] [] (xput (xput (xput (xput (xput (xput (xput (xput (xput (xput σ 13 0 p) 13 1 q) 13 2 kind) 13 3 r1) 13 4 (-1)) 13 5 (-1)) 13 6 0) 13 7 0) 0 15 z190) 6 p.toNat z193) (xbk [0, 1, 2, 3, 4, 5, 6, 7, 8, 9, 10, 11, 12] (xput (xput (xput (xput (xput (xput (xput (xput (xput (xput σ 13 0 p) 13 1 q) 13 2 kind) 13 3 r1) 13 4 (-1)) 13 5 (-1)) 13 6 0) 13 7 0) 0 15 z190) 6 p.toNat z193) ς197) := f197.bk0 (by decide) (by decide) (by decide)
                replace p197 : GR (xbk [0, 1, 2, 3, 4, 5, 6, 7, 8, 9, 10, 11, 12] (xput (xput (xput (xput (xput (xput (xput (xput (xput (xput σ 13 0 p) 13 1 q) 13 2 kind) 13 3 r1) 13 4 (-1)) 13 5 (-1)) 13 6 0) 13 7 0) 0 15 z190) 6 p.toNat z193) ς197) (learnF (acF f p.toNat) p.toNat kind) := p197.bk
                generalize xbk [0, 1, 2, 3, 4, 5, 6, 7, 8, 9, 10, 11, 12] (xput (xput (xput (xput (xput (xput (xput (xput (xput (xput σ 13 0 p) 13 1 q) 13 2 kind) 13 3 r1) 13 4 (-1)) 13 5 (-1)) 13 6 0) 13 7 0) 0 15 z190) 6 p.toNat z193) ς197 = σ197 at f197 p197 ⊢
                have hF := hF.tr f197 (by decide) (by decide)
                have x13 : ∀ j, σ197 13 j = (xput (xput (xput (xput (xput (xput (xput (xput (xput (xput σ 13 0 p) 13 1 q) 13 2 kind) 13 3 r1) 13 4 (-1)) 13 5 (-1)) 13 6 0) 13 7 0) 0 15 z190) 6 p.toNat z193) 13 j := fun j => congrFun (f197.1 13 (by decide) (by decide)) j
                exact lp_164 σ197 ⟨hF, (by unfold ak1F; rw [if_pos (by omega), show ((kind.toNat : Nat) : Int) = kind from by omega]; exact p197), (x13 0).trans (show p = p from rfl), (x13 1).trans (show q = q from rfl), (x13 2).trans (show kind = kind from rfl), (x13 3).trans (show r1 = (if gvs f q.toNat kind.toNat lies then f (60 + 13 * q.toNat + kind.toNat) else 0) from (by first | (rw [if_pos (by omega)]; done) | (rw [if_neg (by omega)]; done) | (rw [if_pos (by omega)]; omega) | (rw [if_neg (by omega)]; omega))), (x13 4).trans (show (-1) = -1 from rfl), (x13 5).trans (show (-1) = -1 from rfl), (x13 6).trans (show 0 = (if 0 < f (60 + 13 * q.toNat + kind.toNat) ∧ lies = 1 then 1 else 0) from (by first | (rw [if_pos (by omega)]; done) | (rw [if_neg (by omega)]; done) | (rw [if_pos (by omega)]; omega) | (rw [if_neg (by omega)]; omega))), (x13 7).trans (show 0 = sureF f q.toNat kind.toNat from (by unfold sureF; rw [show ((kind.toNat : Nat) : Int) = kind from by omega]; first | (rw [if_pos (by omega)]; done) | (rw [if_neg (by omega), if_pos (by omega)]; done) | (rw [if_neg (by omega), if_neg (by omega)]; done)))⟩
            · refine And.intro (rfl) (And.intro (⟨by omega, by omega⟩) ?_)
              have hF := hF.pt (t := 13) (j := 7) (v := 1) (by decide) (by decide)
              refine hX 400 123 _ _ ?_
              have hGs : GR (xput (xput (xput (xput (xput (xput (xput (xput σ 13 0 p) 13 1 q) 13 2 kind) 13 3 r1) 13 4 (-1)) 13 5 (-1)) 13 6 0) 13 7 1) f := hp0.fr (ts := [13]) (js := []) (by repeat (first | exact Fr.rf | refine Fr.pt ?_ (by decide) (by decide)))
              have n5 : σ 0 15 = f 5 := hp0.n1 (i := 5) (by decide)
              have n553 : σ 6 p.toNat = f (553 + p.toNat) := by
                have z := hp0.1 _ _ _ _ (mp_as (j := p.toNat) (by omega))
                omega
              intro v199 e199 l199 h199
              have e199 : v199 = σ 0 15 := e199
              intro z200 t200 e200 l200 h200
              try have w200 : t200 = 0 := by omega
              have hF := hF.p (j := 15) (v := z200) (by decide)
              refine And.intro (rfl) (And.intro (⟨by omega, by omega⟩) ?_)
              intro v202 e202 l202 h202
              have e202 : v202 = σ 6 p.toNat := e202
              intro z203 t203 e203 l203 h203
              try have w203 : t203 = 0 := by omega
              refine And.intro (rfl) (And.intro (⟨by omega, by omega⟩) ?_)
              have hF := hF.pt (t := 6) (j := p.toNat) (v := z203) (by decide) (by decide)
              have hGa : GR (xput (xput (xput (xput (xput (xput (xput (xput (xput (xput σ 13 0 p) 13 1 q) 13 2 kind) 13 3 r1) 13 4 (-1)) 13 5 (-1)) 13 6 0) 13 7 1) 0 15 z200) 6 p.toNat z203) (acF f p.toNat) := (hGs.num (i := 5) (t := 0) (j := 15) (c := 0) (v := wr (f 5 + 1)) (w := z200) (by decide) (by unfold wr; omega) (by decide) (by decide)).num (mp_as (j := p.toNat) (by omega)) (v := wr (f (553 + p.toNat) + 1)) (w := z203) (by unfold wr; omega) (by decide) (by omega)
              obtain ⟨hVa, oa⟩ := hp1.ac (a := p.toNat) (by omega)
              have oak := oa (151 + 13 * p.toNat + kind.toNat) (by omega) (by omega)
              refine xMVp (sh := shH) (ci := 3) (τ := [0, 1, 2, 3, 4, 5, 6, 7, 8, 9, 10, 11, 12]) (E := xT kX3_sureOf) (t := 9) (r := [xvi p, xvi kind]) (σ := (xput (xput (xput (xput (xput (xput (xput (xput (xput (xput σ 13 0 p) 13 1 q) 13 2 kind) 13 3 r1) 13 4 (-1)) 13 5 (-1)) 13 6 0) 13 7 1) 0 15 z200) 6 p.toNat z203)) rfl rfl xbk_sel (fun Q205 hQ205 => sX3_sureOf (σ := xsel [0, 1, 2, 3, 4, 5, 6, 7, 8, 9, 10, 11, 12] (xput (xput (xput (xput (xput (xput (xput (xput (xput (xput σ 13 0 p) 13 1 q) 13 2 kind) 13 3 r1) 13 4 (-1)) 13 5 (-1)) 13 6 0) 13 7 1) 0 15 z200) 6 p.toNat z203)) (p := p) (kind := kind) hp2 hp4 (fun r205 p205 => hQ205 _ ?_))
              have p205 : r205 = (xput (xput (xput (xput (xput (xput (xput (xput (xput (xput σ 13 0 p) 13 1 q) 13 2 kind) 13 3 r1) 13 4 (-1)) 13 5 (-1)) 13 6 0) 13 7 1) 0 15 z200) 6 p.toNat z203) 10 (13 * p + kind).toNat := p205
              have p205 := p205.trans ((hGa.vk hp2 hp4).trans oak)
              refine And.intro (fun c206 => ?_) (fun c206 => ?_)
              · exact lp_164 (xput (xput (xput (xput (xput (xput (xput (xput (xput (xput σ 13 0 p) 13 1 q) 13 2 kind) 13 3 r1) 13 4 (-1)) 13 5 (-1)) 13 6 0) 13 7 1) 0 15 z200) 6 p.toNat z203) ⟨hF, (by unfold ak1F; rw [if_neg (by omega)]; exact hGa), (show p = p from rfl), (show q = q from rfl), (show kind = kind from rfl), (show r1 = (if gvs f q.toNat kind.toNat lies then f (60 + 13 * q.toNat + kind.toNat) else 0) from (by first | (rw [if_pos (by omega)]; done) | (rw [if_neg (by omega)]; done) | (rw [if_pos (by omega)]; omega) | (rw [if_neg (by omega)]; omega))), (show (-1) = -1 from rfl), (show (-1) = -1 from rfl), (show 0 = (if 0 < f (60 + 13 * q.toNat + kind.toNat) ∧ lies = 1 then 1 else 0) from (by first | (rw [if_pos (by omega)]; done) | (rw [if_neg (by omega)]; done) | (rw [if_pos (by omega)]; omega) | (rw [if_neg (by omega)]; omega))), (show 1 = sureF f q.toNat kind.toNat from (by unfold sureF; rw [show ((kind.toNat : Nat) : Int) = kind from by omega]; first | (rw [if_pos (by omega)]; done) | (rw [if_neg (by omega), if_pos (by omega)]; done) | (rw [if_neg (by omega), if_neg (by omega)]; done)))⟩
              · refine xMVf (sh := shH) (ci := 3) (τ := [0, 1, 2, 3, 4, 5, 6, 7, 8, 9, 10, 11, 12]) (E := xT kX3_reveal) (t := 9) (r := [xvi p, xvi kind]) (σ := (xput (xput (xput (xput (xput (xput (xput (xput (xput (xput σ 13 0 p) 13 1 q) 13 2 kind) 13 3 r1) 13 4 (-1)) 13 5 (-1)) 13 6 0) 13 7 1) 0 15 z200) 6 p.toNat z203)) rfl rfl (fun Q207 hQ207 => sX3_revealG (σ := xsel [0, 1, 2, 3, 4, 5, 6, 7, 8, 9, 10, 11, 12] (xput (xput (xput (xput (xput (xput (xput (xput (xput (xput σ 13 0 p) 13 1 q) 13 2 kind) 13 3 r1) 13 4 (-1)) 13 5 (-1)) 13 6 0) 13 7 1) 0 15 z200) 6 p.toNat z203)) (f := acF f p.toNat) (p := p) (kind := kind) hp2 hp4 hGa.sel (by omega) (fun ς207 f207 p207 => hQ207 _ _ ?_))
                replace f207 : Fr [9, 10, 11, 12] [] (xput (xput (xput (xput (xput (xput (xput (xput (xput (xput σ 13 0 p) 13 1 q) 13 2 kind) 13 3 r1) 13 4 (-1)) 13 5 (-1)) 13 6 0) 13 7 1) 0 15 z200) 6 p.toNat z203) (xbk [0, 1, 2, 3, 4, 5, 6, 7, 8, 9, 10, 11, 12] (xput (xput (xput (xput (xput (xput (xput (xput (xput (xput σ 13 0 p) 13 1 q) 13 2 kind) 13 3 r1) 13 4 (-1)) 13 5 (-1)) 13 6 0) 13 7 1) 0 15 z200) 6 p.toNat z203) ς207) := f207.bk0 (by decide) (by decide) (by decide)
                replace p207 : GR (xbk [0, 1, 2, 3, 4, 5, 6, 7, 8, 9, 10, 11, 12] (xput (xput (xput (xput (xput (xput (xput (xput (xput (xput σ 13 0 p) 13 1 q) 13 2 kind) 13 3 r1) 13 4 (-1)) 13 5 (-1)) 13 6 0) 13 7 1) 0 15 z200) 6 p.toNat z203) ς207) (learnF (acF f p.toNat) p.toNat kind) := p207.bk
                generalize xbk [0, 1, 2, 3, 4, 5, 6, 7, 8, 9, 10, 11, 12] (xput (xput (xput (xput (xput (xput (xput (xput (xput (xput σ 13 0 p) 13 1 q) 13 2 kind) 13 3 r1) 13 4 (-1)) 13 5 (-1)) 13 6 0) 13 7 1) 0 15 z200) 6 p.toNat z203) ς207 = σ207 at f207 p207 ⊢
                have hF := hF.tr f207 (by decide) (by decide)
                have x13 : ∀ j, σ207 13 j = (xput (xput (xput (xput (xput (xput (xput (xput (xput (xput σ 13 0 p) 13 1 q) 13 2 kind) 13 3 r1) 13 4 (-1)) 13 5 (-1)) 13 6 0) 13 7 1) 0 15 z200) 6 p.toNat z203) 13 j := fun j => congrFun (f207.1 13 (by decide) (by decide)) j
                exact lp_164 σ207 ⟨hF, (by unfold ak1F; rw [if_pos (by omega), show ((kind.toNat : Nat) : Int) = kind from by omega]; exact p207), (x13 0).trans (show p = p from rfl), (x13 1).trans (show q = q from rfl), (x13 2).trans (show kind = kind from rfl), (x13 3).trans (show r1 = (if gvs f q.toNat kind.toNat lies then f (60 + 13 * q.toNat + kind.toNat) else 0) from (by first | (rw [if_pos (by omega)]; done) | (rw [if_neg (by omega)]; done) | (rw [if_pos (by omega)]; omega) | (rw [if_neg (by omega)]; omega))), (x13 4).trans (show (-1) = -1 from rfl), (x13 5).trans (show (-1) = -1 from rfl), (x13 6).trans (show 0 = (if 0 < f (60 + 13 * q.toNat + kind.toNat) ∧ lies = 1 then 1 else 0) from (by first | (rw [if_pos (by omega)]; done) | (rw [if_neg (by omega)]; done) | (rw [if_pos (by omega)]; omega) | (rw [if_neg (by omega)]; omega))), (x13 7).trans (show 1 = sureF f q.toNat kind.toNat from (by unfold sureF; rw [show ((kind.toNat : Nat) : Int) = kind from by omega]; first | (rw [if_pos (by omega)]; done) | (rw [if_neg (by omega), if_pos (by omega)]; done) | (rw [if_neg (by omega), if_neg (by omega)]; done)))⟩
          · refine And.intro (rfl) (And.intro (⟨by omega, by omega⟩) ?_)
            have hF := hF.pt (t := 13) (j := 7) (v := 2) (by decide) (by decide)
            refine hX 400 123 _ _ ?_
            have hGs : GR (xput (xput (xput (xput (xput (xput (xput (xput σ 13 0 p) 13 1 q) 13 2 kind) 13 3 r1) 13 4 (-1)) 13 5 (-1)) 13 6 0) 13 7 2) f := hp0.fr (ts := [13]) (js := []) (by repeat (first | exact Fr.rf | refine Fr.pt ?_ (by decide) (by decide)))
            have n5 : σ 0 15 = f 5 := hp0.n1 (i := 5) (by decide)
            have n553 : σ 6 p.toNat = f (553 + p.toNat) := by
              have z := hp0.1 _ _ _ _ (mp_as (j := p.toNat) (by omega))
              omega
            intro v209 e209 l209 h209
            have e209 : v209 = σ 0 15 := e209
            intro z210 t210 e210 l210 h210
            try have w210 : t210 = 0 := by omega
            have hF := hF.p (j := 15) (v := z210) (by decide)
            refine And.intro (rfl) (And.intro (⟨by omega, by omega⟩) ?_)
            intro v212 e212 l212 h212
            have e212 : v212 = σ 6 p.toNat := e212
            intro z213 t213 e213 l213 h213
            try have w213 : t213 = 0 := by omega
            refine And.intro (rfl) (And.intro (⟨by omega, by omega⟩) ?_)
            have hF := hF.pt (t := 6) (j := p.toNat) (v := z213) (by decide) (by decide)
            have hGa : GR (xput (xput (xput (xput (xput (xput (xput (xput (xput (xput σ 13 0 p) 13 1 q) 13 2 kind) 13 3 r1) 13 4 (-1)) 13 5 (-1)) 13 6 0) 13 7 2) 0 15 z210) 6 p.toNat z213) (acF f p.toNat) := (hGs.num (i := 5) (t := 0) (j := 15) (c := 0) (v := wr (f 5 + 1)) (w := z210) (by decide) (by unfold wr; omega) (by decide) (by decide)).num (mp_as (j := p.toNat) (by omega)) (v := wr (f (553 + p.toNat) + 1)) (w := z213) (by unfold wr; omega) (by decide) (by omega)
            obtain ⟨hVa, oa⟩ := hp1.ac (a := p.toNat) (by omega)
            have oak := oa (151 + 13 * p.toNat + kind.toNat) (by omega) (by omega)
            refine xMVp (sh := shH) (ci := 3) (τ := [0, 1, 2, 3, 4, 5, 6, 7, 8, 9, 10, 11, 12]) (E := xT kX3_sureOf) (t := 9) (r := [xvi p, xvi kind]) (σ := (xput (xput (xput (xput (xput (xput (xput (xput (xput (xput σ 13 0 p) 13 1 q) 13 2 kind) 13 3 r1) 13 4 (-1)) 13 5 (-1)) 13 6 0) 13 7 2) 0 15 z210) 6 p.toNat z213)) rfl rfl xbk_sel (fun Q215 hQ215 => sX3_sureOf (σ := xsel [0, 1, 2, 3, 4, 5, 6, 7, 8, 9, 10, 11, 12] (xput (xput (xput (xput (xput (xput (xput (xput (xput (xput σ 13 0 p) 13 1 q) 13 2 kind) 13 3 r1) 13 4 (-1)) 13 5 (-1)) 13 6 0) 13 7 2) 0 15 z210) 6 p.toNat z213)) (p := p) (kind := kind) hp2 hp4 (fun r215 p215 => hQ215 _ ?_))
            have p215 : r215 = (xput (xput (xput (xput (xput (xput (xput (xput (xput (xput σ 13 0 p) 13 1 q) 13 2 kind) 13 3 r1) 13 4 (-1)) 13 5 (-1)) 13 6 0) 13 7 2) 0 15 z210) 6 p.toNat z213) 10 (13 * p + kind).toNat := p215
            have p215 := p215.trans ((hGa.vk hp2 hp4).trans oak)
            refine And.intro (fun c216 => ?_) (fun c216 => ?_)
            · exact lp_164 (xput (xput (xput (xput (xput (xput (xput (xput (xput (xput σ 13 0 p) 13 1 q) 13 2 kind) 13 3 r1) 13 4 (-1)) 13 5 (-1)) 13 6 0) 13 7 2) 0 15 z210) 6 p.toNat z213) ⟨hF, (by unfold ak1F; rw [if_neg (by omega)]; exact hGa), (show p = p from rfl), (show q = q from rfl), (show kind = kind from rfl), (show r1 = (if gvs f q.toNat kind.toNat lies then f (60 + 13 * q.toNat + kind.toNat) else 0) from (by first | (rw [if_pos (by omega)]; done) | (rw [if_neg (by omega)]; done) | (rw [if_pos (by omega)]; omega) | (rw [if_neg (by omega)]; omega))), (show (-1) = -1 from rfl), (show (-1) = -1 from rfl), (show 0 = (if 0 < f (60 + 13 * q.toNat + kind.toNat) ∧ lies = 1 then 1 else 0) from (by first | (rw [if_pos (by omega)]; done) | (rw [if_neg (by omega)]; done) | (rw [if_pos (by omega)]; omega) | (rw [if_neg (by omega)]; omega))), (show 2 = sureF f q.toNat kind.toNat from (by unfold sureF; rw [show ((kind.toNat : Nat) : Int) = kind from by omega]; first | (rw [if_pos (by omega)]; done) | (rw [if_neg (by omega), if_pos (by omega)]; done) | (rw [if_neg (by omega), if_neg (by omega)]; done)))⟩
            · refine xMVf (sh := shH) (ci := 3) (τ := [0, 1, 2, 3, 4, 5, 6, 7, 8, 9, 10, 11, 12]) (E := xT kX3_reveal) (t := 9) (r := [xvi p, xvi kind]) (σ := (xput (xput (xput (xput (xput (xput (xput (xput (xput (xput σ 13 0 p) 13 1 q) 13 2 kind) 13 3 r1) 13 4 (-1)) 13 5 (-1)) 13 6 0) 13 7 2) 0 15 z210) 6 p.toNat z213)) rfl rfl (fun Q217 hQ217 => sX3_revealG (σ := xsel [0, 1, 2, 3, 4, 5, 6, 7, 8, 9, 10, 11, 12] (xput (xput (xput (xput (xput (xput (xput (xput (xput (xput σ 13 0 p) 13 1 q) 13 2 kind) 13 3 r1) 13 4 (-1)) 13 5 (-1)) 13 6 0) 13 7 2) 0 15 z210) 6 p.toNat z213)) (f := acF f p.toNat) (p := p) (kind := kind) hp2 hp4 hGa.sel (by omega) (fun ς217 f217 p217 => hQ217 _ _ ?_))
              replace f217 : Fr [9, 10, 11, 12] [] (xput (xput (xput (xput (xput (xput (xput (xput (xput (xput σ 13 0 p) 13 1 q) 13 2 kind) 13 3 r1) 13 4 (-1)) 13 5 (-1)) 13 6 0) 13 7 2) 0 15 z210) 6 p.toNat z213) (xbk [0, 1, 2, 3, 4, 5, 6, 7, 8, 9, 10, 11, 12] (xput (xput (xput (xput (xput (xput (xput (xput (xput (xput σ 13 0 p) 13 1 q) 13 2 kind) 13 3 r1) 13 4 (-1)) 13 5 (-1)) 13 6 0) 13 7 2) 0 15 z210) 6 p.toNat z213) ς217) := f217.bk0 (by decide) (by decide) (by decide)
              replace p217 : GR (xbk [0, 1, 2, 3, 4, 5, 6, 7, 8, 9, 10, 11, 12] (xput (xput (xput (xput (xput (xput (xput (xput (xput (xput σ 13 0 p) 13 1 q) 13 2 kind) 13 3 r1) 13 4 (-1)) 13 5 (-1)) 13 6 0) 13 7 2) 0 15 z210) 6 p.toNat z213) ς217) (learnF (acF f p.toNat) p.toNat kind) := p217.bk
              generalize xbk [0, 1, 2, 3, 4, 5, 6, 7, 8, 9, 10, 11, 12] (xput (xput (xput (xput (xput (xput (xput (xput (xput (xput σ 13 0 p) 13 1 q) 13 2 kind) 13 3 r1) 13 4 (-1)) 13 5 (-1)) 13 6 0) 13 7 2) 0 15 z210) 6 p.toNat z213) ς217 = σ217 at f217 p217 ⊢
              have hF := hF.tr f217 (by decide) (by decide)
              have x13 : ∀ j, σ217 13 j = (xput (xput (xput (xput (xput (xput (xput (xput (xput (xput σ 13 0 p) 13 1 q) 13 2 kind) 13 3 r1) 13 4 (-1)) 13 5 (-1)) 13 6 0) 13 7 2) 0 15 z210) 6 p.toNat z213) 13 j := fun j => congrFun (f217.1 13 (by decide) (by decide)) j
              exact lp_164 σ217 ⟨hF, (by unfold ak1F; rw [if_pos (by omega), show ((kind.toNat : Nat) : Int) = kind from by omega]; exact p217), (x13 0).trans (show p = p from rfl), (x13 1).trans (show q = q from rfl), (x13 2).trans (show kind = kind from rfl), (x13 3).trans (show r1 = (if gvs f q.toNat kind.toNat lies then f (60 + 13 * q.toNat + kind.toNat) else 0) from (by first | (rw [if_pos (by omega)]; done) | (rw [if_neg (by omega)]; done) | (rw [if_pos (by omega)]; omega) | (rw [if_neg (by omega)]; omega))), (x13 4).trans (show (-1) = -1 from rfl), (x13 5).trans (show (-1) = -1 from rfl), (x13 6).trans (show 0 = (if 0 < f (60 + 13 * q.toNat + kind.toNat) ∧ lies = 1 then 1 else 0) from (by first | (rw [if_pos (by omega)]; done) | (rw [if_neg (by omega)]; done) | (rw [if_pos (by omega)]; omega) | (rw [if_neg (by omega)]; omega))), (x13 7).trans (show 2 = sureF f q.toNat kind.toNat from (by unfold sureF; rw [show ((kind.toNat : Nat) : Int) = kind from by omega]; first | (rw [if_pos (by omega)]; done) | (rw [if_neg (by omega), if_pos (by omega)]; done) | (rw [if_neg (by omega), if_neg (by omega)]; done)))⟩
        · refine And.intro (rfl) (And.intro (⟨by omega, by omega⟩) ?_)
          have hF := hF.pt (t := 13) (j := 6) (v := 1) (by decide) (by decide)
          refine hX 400 85 _ _ ?_
          refine xMVp (sh := shH) (ci := 3) (τ := [0, 1, 2, 3, 4, 5, 6, 7, 8, 9, 10, 11, 12]) (E := xT kX3_sureOf) (t := 9) (r := [xvi q, xvi kind]) (σ := (xput (xput (xput (xput (xput (xput (xput σ 13 0 p) 13 1 q) 13 2 kind) 13 3 r1) 13 4 (-1)) 13 5 (-1)) 13 6 1)) rfl rfl xbk_sel (fun Q219 hQ219 => sX3_sureOf (σ := xsel [0, 1, 2, 3, 4, 5, 6, 7, 8, 9, 10, 11, 12] (xput (xput (xput (xput (xput (xput (xput σ 13 0 p) 13 1 q) 13 2 kind) 13 3 r1) 13 4 (-1)) 13 5 (-1)) 13 6 1)) (p := q) (kind := kind) hp3 hp4 (fun r219 p219 => hQ219 _ ?_))
          have p219 : r219 = σ 10 (13 * q + kind).toNat := p219
          rw [hp0.vk hp3 hp4] at p219
          refine And.intro (fun c220 => ?_) (fun c220 => ?_)
          · have hGs : GR (xput (xput (xput (xput (xput (xput (xput σ 13 0 p) 13 1 q) 13 2 kind) 13 3 r1) 13 4 (-1)) 13 5 (-1)) 13 6 1) f := hp0.fr (ts := [13]) (js := []) (by repeat (first | exact Fr.rf | refine Fr.pt ?_ (by decide) (by decide)))
            refine xMVp (sh := shH) (ci := 3) (τ := [0, 1, 2, 3, 4, 5, 6, 7, 8, 9, 10, 11, 12]) (E := xT kX3_mayBe) (t := 9) (r := [xvi q, xvi kind]) (σ := (xput (xput (xput (xput (xput (xput (xput σ 13 0 p) 13 1 q) 13 2 kind) 13 3 r1) 13 4 (-1)) 13 5 (-1)) 13 6 1)) rfl rfl xbk_sel (fun Q221 hQ221 => sX3_mayBeG (σ := xsel [0, 1, 2, 3, 4, 5, 6, 7, 8, 9, 10, 11, 12] (xput (xput (xput (xput (xput (xput (xput σ 13 0 p) 13 1 q) 13 2 kind) 13 3 r1) 13 4 (-1)) 13 5 (-1)) 13 6 1)) (f := f) (p := q) (kind := kind) hGs.sel hp3 hp4 (fun r221 p221 => hQ221 _ ?_))
            have p221 : r221 = canF f q.toNat kind := p221
            refine And.intro (fun c222 => ?_) (fun c222 => ?_)
            · refine And.intro (rfl) (And.intro (⟨by omega, by omega⟩) ?_)
              have hF := hF.pt (t := 13) (j := 7) (v := 0) (by decide) (by decide)
              refine hX 400 123 _ _ ?_
              have hGs : GR (xput (xput (xput (xput (xput (xput (xput (xput σ 13 0 p) 13 1 q) 13 2 kind) 13 3 r1) 13 4 (-1)) 13 5 (-1)) 13 6 1) 13 7 0) f := hp0.fr (ts := [13]) (js := []) (by repeat (first | exact Fr.rf | refine Fr.pt ?_ (by decide) (by decide)))
              have n5 : σ 0 15 = f 5 := hp0.n1 (i := 5) (by decide)
              have n553 : σ 6 p.toNat = f (553 + p.toNat) := by
                have z := hp0.1 _ _ _ _ (mp_as (j := p.toNat) (by omega))
                omega
              intro v224 e224 l224 h224
              have e224 : v224 = σ 0 15 := e224
              intro z225 t225 e225 l225 h225
              try have w225 : t225 = 0 := by omega
              have hF := hF.p (j := 15) (v := z225) (by decide)
              refine And.intro (rfl) (And.intro (⟨by omega, by omega⟩) ?_)
              intro v227 e227 l227 h227
              have e227 : v227 = σ 6 p.toNat := e227
              intro z228 t228 e228 l228 h228
              try have w228 : t228 = 0 := by omega
              refine And.intro (rfl) (And.intro (⟨by omega, by omega⟩) ?_)
              have hF := hF.pt (t := 6) (j := p.toNat) (v := z228) (by decide) (by decide)
              have hGa : GR (xput (xput (xput (xput (xput (xput (xput (xput (xput (xput σ 13 0 p) 13 1 q) 13 2 kind) 13 3 r1) 13 4 (-1)) 13 5 (-1)) 13 6 1) 13 7 0) 0 15 z225) 6 p.toNat z228) (acF f p.toNat) := (hGs.num (i := 5) (t := 0) (j := 15) (c := 0) (v := wr (f 5 + 1)) (w := z225) (by decide) (by unfold wr; omega) (by decide) (by decide)).num (mp_as (j := p.toNat) (by omega)) (v := wr (f (553 + p.toNat) + 1)) (w := z228) (by unfold wr; omega) (by decide) (by omega)
              obtain ⟨hVa, oa⟩ := hp1.ac (a := p.toNat) (by omega)
              have oak := oa (151 + 13 * p.toNat + kind.toNat) (by omega) (by omega)
              refine xMVp (sh := shH) (ci := 3) (τ := [0, 1, 2, 3, 4, 5, 6, 7, 8, 9, 10, 11, 12]) (E := xT kX3_sureOf) (t := 9) (r := [xvi p, xvi kind]) (σ := (xput (xput (xput (xput (xput (xput (xput (xput (xput (xput σ 13 0 p) 13 1 q) 13 2 kind) 13 3 r1) 13 4 (-1)) 13 5 (-1)) 13 6 1) 13 7 0) 0 15 z225) 6 p.toNat z228)) rfl rfl xbk_sel (fun Q230 hQ230 => sX3_sureOf (σ := xsel [0, 1, 2, 3, 4, 5, 6, 7, 8, 9, 10, 11, 12] (xput (xput (xput (xput (xput (xput (xput (xput (xput (xput σ 13 0 p) 13 1 q) 13 2 kind) 13 3 r1) 13 4 (-1)) 13 5 (-1)) 13 6 1) 13 7 0) 0 15 z225) 6 p.toNat z228)) (p := p) (kind := kind) hp2 hp4 (fun r230 p230 => hQ230 _ ?_))
              have p230 : r230 = (xput (xput (xput (xput (xput (xput (xput (xput (xput (xput σ 13 0 p) 13 1 q) 13 2 kind) 13 3 r1) 13 4 (-1)) 13 5 (-1)) 13 6 1) 13 7 0) 0 15 z225) 6 p.toNat z228) 10 (13 * p + kind).toNat := p230
              have p230 := p230.trans ((hGa.vk hp2 hp4).trans oak)
              refine And.intro (fun c231 => ?_) (fun c231 => ?_)
              · exact lp_164 (xput (xput (xput (xput (xput (xput (xput (xput (xput (xput σ 13 0 p) 13 1 q) 13 2 kind) 13 3 r1) 13 4 (-1)) 13 5 (-1)) 13 6 1) 13 7 0) 0 15 z225) 6 p.toNat z228) ⟨hF, (by unfold ak1F; rw [if_neg (by omega)]; exact hGa), (show p = p from rfl), (show q = q from rfl), (show kind = kind from rfl), (show r1 = (if gvs f q.toNat kind.toNat lies then f (60 + 13 * q.toNat + kind.toNat) else 0) from (by first | (rw [if_pos (by omega)]; done) | (rw [if_neg (by omega)]; done) | (rw [if_pos (by omega)]; omega) | (rw [if_neg (by omega)]; omega))), (show (-1) = -1 from rfl), (show (-1) = -1 from rfl), (show 1 = (if 0 < f (60 + 13 * q.toNat + kind.toNat) ∧ lies = 1 then 1 else 0) from (by first | (rw [if_pos (by omega)]; done) | (rw [if_neg (by omega)]; done) | (rw [if_pos (by omega)]; omega) | (rw [if_neg (by omega)]; omega))), (show 0 = sureF f q.toNat kind.toNat from (by unfold sureF; rw [show ((kind.toNat : Nat) : Int) = kind from by omega]; first | (rw [if_pos (by omega)]; done) | (rw [if_neg (by omega), if_pos (by omega)]; done) | (rw [if_neg (by omega), if_neg (by omega)]; done)))⟩
              · refine xMVf (sh := shH) (ci := 3) (τ := [0, 1, 2, 3, 4, 5, 6, 7, 8, 9, 10, 11, 12]) (E := xT kX3_reveal) (t := 9) (r := [xvi p, xvi kind]) (σ := (xput (xput (xput (xput (xput (xput (xput (xput (xput (xput σ 13 0 p) 13 1 q) 13 2 kind) 13 3 r1) 13 4 (-1)) 13 5 (-1)) 13 6 1) 13 7 0) 0 15 z225) 6 p.toNat z228)) rfl rfl (fun Q232 hQ232 => sX3_revealG (σ := xsel [0, 1, 2, 3, 4, 5, 6, 7, 8, 9, 10, 11, 12] (xput (xput (xput (xput (xput (xput (xput (xput (xput (xput σ 13 0 p) 13 1 q) 13 2 kind) 13 3 r1) 13 4 (-1)) 13 5 (-1)) 13 6 1) 13 7 0) 0 15 z225) 6 p.toNat z228)) (f := acF f p.toNat) (p := p) (kind := kind) hp2 hp4 hGa.sel (by omega) (fun ς232 f232 p232 => hQ232 _ _ ?_))
                replace f232 : Fr [9, 10, 11, 12] [] (xput (xput (xput (xput (xput (xput (xput (xput (xput (xput σ 13 0 p) 13 1 q) 13 2 kind) 13 3 r1) 13 4 (-1)) 13 5 (-1)) 13 6 1) 13 7 0) 0 15 z225) 6 p.toNat z228) (xbk [0, 1, 2, 3, 4, 5, 6, 7, 8, 9, 10, 11, 12] (xput (xput (xput (xput (xput (xput (xput (xput (xput (xput σ 13 0 p) 13 1 q) 13 2 kind) 13 3 r1) 13 4 (-1)) 13 5 (-1)) 13 6 1) 13 7 0) 0 15 z225) 6 p.toNat z228) ς232) := f232.bk0 (by decide) (by decide) (by decide)
                replace p232 : GR (xbk [0, 1, 2, 3, 4, 5, 6, 7, 8, 9, 10, 11, 12] (xput (xput (xput (xput (xput (xput (xput (xput (xput (xput σ 13 0 p) 13 1 q) 13 2 kind) 13 3 r1) 13 4 (-1)) 13 5 (-1)) 13 6 1) 13 7 0) 0 15 z225) 6 p.toNat z228) ς232) (learnF (acF f p.toNat) p.toNat kind) := p232.bk
                generalize xbk [0, 1, 2, 3, 4, 5, 6, 7, 8, 9, 10, 11, 12] (xput (xput (xput (xput (xput (xput (xput (xput (xput (xput σ 13 0 p) 13 1 q) 13 2 kind) 13 3 r1) 13 4 (-1)) 13 5 (-1)) 13 6 1) 13 7 0) 0 15 z225) 6 p.toNat z228) ς232 = σ232 at f232 p232 ⊢
                have hF := hF.tr f232 (by decide) (by decide)
                have x13 : ∀ j, σ232 13 j = (xput (xput (xput (xput (xput (xput (xput (xput (xput (xput σ 13 0 p) 13 1 q) 13 2 kind) 13 3 r1) 13 4 (-1)) 13 5 (-1)) 13 6 1) 13 7 0) 0 15 z225) 6 p.toNat z228) 13 j := fun j => congrFun (f232.1 13 (by decide) (by decide)) j
                exact lp_164 σ232 ⟨hF, (by unfold ak1F; rw [if_pos (by omega), show ((kind.toNat : Nat) : Int) = kind from by omega]; exact p232), (x13 0).trans (show p = p from rfl), (x13 1).trans (show q = q from rfl), (x13 2).trans (show kind = kind from rfl), (x13 3).trans (show r1 = (if gvs f q.toNat kind.toNat lies then f (60 + 13 * q.toNat + kind.toNat) else 0) from (by first | (rw [if_pos (by omega)]; done) | (rw [if_neg (by omega)]; done) | (rw [if_pos (by omega)]; omega) | (rw [if_neg (by omega)]; omega))), (x13 4).trans (show (-1) = -1 from rfl), (x13 5).trans (show (-1) = -1 from rfl), (x13 6).trans (show 1 = (if 0 < f (60 + 13 * q.toNat + kind.toNat) ∧ lies = 1 then 1 else 0) from (by first | (rw [if_pos (by omega)]; done) | (rw [if_neg (by omega)]; done) | (rw [if_pos (by omega)]; omega) | (rw [if_neg (by omega)]; omega))), (x13 7).trans (show 0 = sureF f q.toNat kind.toNat from (by unfold sureF; rw [show ((kind.toNat : Nat) : Int) = kind from by omega]; first | (rw [if_pos (by omega)]; done) | (rw [if_neg (by omega), if_pos (by omega)]; done) | (rw [if_neg (by omega), if_neg (by omega)]; done)))⟩
            · refine And.intro (rfl) (And.intro (⟨by omega, by omega⟩) ?_)
              have hF := hF.pt (t := 13) (j := 7) (v := 1) (by decide) (by decide)
              refine hX 400 123 _ _ ?_
              have hGs : GR (xput (xput (xput (xput (xput (xput (xput (xput σ 13 0 p) 13 1 q) 13 2 kind) 13 3 r1) 13 4 (-1)) 13 5 (-1)) 13 6 1) 13 7 1) f := hp0.fr (ts := [13]) (js := []) (by repeat (first | exact Fr.rf | refine Fr.pt ?_ (by decide) (by decide)))
              have n5 : σ 0 15 = f 5 := hp0.n1 (i := 5) (by decide)
              have n553 : σ 6 p.toNat = f (553 + p.toNat) := by
                have z := hp0.1 _ _ _ _ (mp_as (j := p.toNat) (by omega))
                omega
              intro v234 e234 l234 h234
              have e234 : v234 = σ 0 15 := e234
              intro z235 t235 e235 l235 h235
              try have w235 : t235 = 0 := by omega
              have hF := hF.p (j := 15) (v := z235) (by decide)
              refine And.intro (rfl) (And.intro (⟨by omega, by omega⟩) ?_)
              intro v237 e237 l237 h237
              have e237 : v237 = σ 6 p.toNat := e237
              intro z238 t238 e238 l238 h238
              try have w238 : t238 = 0 := by omega
              refine And.intro (rfl) (And.intro (⟨by omega, by omega⟩) ?_)
              have hF := hF.pt (t := 6) (j := p.toNat) (v := z238) (by decide) (by decide)
              have hGa : GR (xput (xput (xput (xput (xput (xput (xput (xput (xput (xput σ 13 0 p) 13 1 q) 13 2 kind) 13 3 r1) 13 4 (-1)) 13 5 (-1)) 13 6 1) 13 7 1) 0 15 z235) 6 p.toNat z238) (acF f p.toNat) := (hGs.num (i := 5) (t := 0) (j := 15) (c := 0) (v := wr (f 5 + 1)) (w := z235) (by decide) (by unfold wr; omega) (by decide) (by decide)).num (mp_as (j := p.toNat) (by omega)) (v := wr (f (553 + p.toNat) + 1)) (w := z238) (by unfold wr; omega) (by decide) (by omega)
              obtain ⟨hVa, oa⟩ := hp1.ac (a := p.toNat) (by omega)
              have oak := oa (151 + 13 * p.toNat + kind.toNat) (by omega) (by omega)
              refine xMVp (sh := shH) (ci := 3) (τ := [0, 1, 2, 3, 4, 5, 6, 7, 8, 9, 10, 11, 12]) (E := xT kX3_sureOf) (t := 9) (r := [xvi p, xvi kind]) (σ := (xput (xput (xput (xput (xput (xput (xput (xput (xput (xput σ 13 0 p) 13 1 q) 13 2 kind) 13 3 r1) 13 4 (-1)) 13 5 (-1)) 13 6 1) 13 7 1) 0 15 z235) 6 p.toNat z238)) rfl rfl xbk_sel (fun Q240 hQ240 => sX3_sureOf (σ := xsel [0, 1, 2, 3, 4, 5, 6, 7, 8, 9, 10, 11, 12] (xput (xput (xput (xput (xput (xput (xput (xput (xput (xput σ 13 0 p) 13 1 q) 13 2 kind) 13 3 r1) 13 4 (-1)) 13 5 (-1)) 13 6 1) 13 7 1) 0 15 z235) 6 p.toNat z238)) (p := p) (kind := kind) hp2 hp4 (fun r240 p240 => hQ240 _ ?_))
              have p240 : r240 = (xput (xput (xput (xput (xput (xput (xput (xput (xput (xput σ 13 0 p) 13 1 q) 13 2 kind) 13 3 r1) 13 4 (-1)) 13 5 (-1)) 13 6 1) 13 7 1) 0 15 z235) 6 p.toNat z238) 10 (13 * p + kind).toNat := p240
              have p240 := p240.trans ((hGa.vk hp2 hp4).trans oak)
              refine And.intro (fun c241 => ?_) (fun c241 => ?_)
              · exact lp_164 (xput (xput (xput (xput (xput (xput (xput (xput (xput (xput σ 13 0 p) 13 1 q) 13 2 kind) 13 3 r1) 13 4 (-1)) 13 5 (-1)) 13 6 1) 13 7 1) 0 15 z235) 6 p.toNat z238) ⟨hF, (by unfold ak1F; rw [if_neg (by omega)]; exact hGa), (show p = p from rfl), (show q = q from rfl), (show kind = kind from rfl), (show r1 = (if gvs f q.toNat kind.toNat lies then f (60 + 13 * q.toNat + kind.toNat) else 0) from (by first | (rw [if_pos (by omega)]; done) | (rw [if_neg (by omega)]; done) | (rw [if_pos (by omega)]; omega) | (rw [if_neg (by omega)]; omega))), (show (-1) = -1 from rfl), (show (-1) = -1 from rfl), (show 1 = (if 0 < f (60 + 13 * q.toNat + kind.toNat) ∧ lies = 1 then 1 else 0) from (by first | (rw [if_pos (by omega)]; done) | (rw [if_neg (by omega)]; done) | (rw [if_pos (by omega)]; omega) | (rw [if_neg (by omega)]; omega))), (show 1 = sureF f q.toNat kind.toNat from (by unfold sureF; rw [show ((kind.toNat : Nat) : Int) = kind from by omega]; first | (rw [if_pos (by omega)]; done) | (rw [if_neg (by omega), if_pos (by omega)]; done) | (rw [if_neg (by omega), if_neg (by omega)]; done)))⟩
              · refine xMVf (sh := shH) (ci := 3) (τ := [0, 1, 2, 3, 4, 5, 6, 7, 8, 9, 10, 11, 12]) (E := xT kX3_reveal) (t := 9) (r := [xvi p, xvi kind]) (σ := (xput (xput (xput (xput (xput (xput (xput (xput (xput (xput σ 13 0 p) 13 1 q) 13 2 kind) 13 3 r1) 13 4 (-1)) 13 5 (-1)) 13 6 1) 13 7 1) 0 15 z235) 6 p.toNat z238)) rfl rfl (fun Q242 hQ242 => sX3_revealG (σ := xsel [0, 1, 2, 3, 4, 5, 6, 7, 8, 9, 10, 11, 12] (xput (xput (xput (xput (xput (xput (xput (xput (xput (xput σ 13 0 p) 13 1 q) 13 2 kind) 13 3 r1) 13 4 (-1)) 13 5 (-1)) 13 6 1) 13 7 1) 0 15 z235) 6 p.toNat z238)) (f := acF f p.toNat) (p := p) (kind := kind) hp2 hp4 hGa.sel (by omega) (fun ς242 f242 p242 => hQ242 _ _ ?_))
                replace f242 : Fr [9, 10, 11, 12] [] (xput (xput (xput (xput (xput (xput (xput (xput (xput (xput σ 13 0 p) 13 1 q) 13 2 kind) 13 3 r1) 13 4 (-1)) 13 5 (-1)) 13 6 1) 13 7 1) 0 15 z235) 6 p.toNat z238) (xbk [0, 1, 2, 3, 4, 5, 6, 7, 8, 9, 10, 11, 12] (xput (xput (xput (xput (xput (xput (xput (xput (xput (xput σ 13 0 p) 13 1 q) 13 2 kind) 13 3 r1) 13 4 (-1)) 13 5 (-1)) 13 6 1) 13 7 1) 0 15 z235) 6 p.toNat z238) ς242) := f242.bk0 (by decide) (by decide) (by decide)
                replace p242 : GR (xbk [0, 1, 2, 3, 4, 5, 6, 7, 8, 9, 10, 11, 12] (xput (xput (xput (xput (xput (xput (xput (xput (xput (xput σ 13 0 p) 13 1 q) 13 2 kind) 13 3 r1) 13 4 (-1)) 13 5 (-1)) 13 6 1) 13 7 1) 0 15 z235) 6 p.toNat z238) ς242) (learnF (acF f p.toNat) p.toNat kind) := p242.bk
                generalize xbk [0, 1, 2, 3, 4, 5, 6, 7, 8, 9, 10, 11, 12] (xput (xput (xput (xput (xput (xput (xput (xput (xput (xput σ 13 0 p) 13 1 q) 13 2 kind) 13 3 r1) 13 4 (-1)) 13 5 (-1)) 13 6 1) 13 7 1) 0 15 z235) 6 p.toNat z238) ς242 = σ242 at f242 p242 ⊢
                have hF := hF.tr f242 (by decide) (by decide)
                have x13 : ∀ j, σ242 13 j = (xput (xput (xput (xput (xput (xput (xput (xput (xput (xput σ 13 0 p) 13 1 q) 13 2 kind) 13 3 r1) 13 4 (-1)) 13 5 (-1)) 13 6 1) 13 7 1) 0 15 z235) 6 p.toNat z238) 13 j := fun j => congrFun (f242.1 13 (by decide) (by decide)) j
                exact lp_164 σ242 ⟨hF, (by unfold ak1F; rw [if_pos (by omega), show ((kind.toNat : Nat) : Int) = kind from by omega]; exact p242), (x13 0).trans (show p = p from rfl), (x13 1).trans (show q = q from rfl), (x13 2).trans (show kind = kind from rfl), (x13 3).trans (show r1 = (if gvs f q.toNat kind.toNat lies then f (60 + 13 * q.toNat + kind.toNat) else 0) from (by first | (rw [if_pos (by omega)]; done) | (rw [if_neg (by omega)]; done) | (rw [if_pos (by omega)]; omega) | (rw [if_neg (by omega)]; omega))), (x13 4).trans (show (-1) = -1 from rfl), (x13 5).trans (show (-1) = -1 from rfl), (x13 6).trans (show 1 = (if 0 < f (60 + 13 * q.toNat + kind.toNat) ∧ lies = 1 then 1 else 0) from (by first | (rw [if_pos (by omega)]; done) | (rw [if_neg (by omega)]; done) | (rw [if_pos (by omega)]; omega) | (rw [if_neg (by omega)]; omega))), (x13 7).trans (show 1 = sureF f q.toNat kind.toNat from (by unfold sureF; rw [show ((kind.toNat : Nat) : Int) = kind from by omega]; first | (rw [if_pos (by omega)]; done) | (rw [if_neg (by omega), if_pos (by omega)]; done) | (rw [if_neg (by omega), if_neg (by omega)]; done)))⟩
          · refine And.intro (rfl) (And.intro (⟨by omega, by omega⟩) ?_)
            have hF := hF.pt (t := 13) (j := 7) (v := 2) (by decide) (by decide)
            refine hX 400 123 _ _ ?_
            have hGs : GR (xput (xput (xput (xput (xput (xput (xput (xput σ 13 0 p) 13 1 q) 13 2 kind) 13 3 r1) 13 4 (-1)) 13 5 (-1)) 13 6 1) 13 7 2) f := hp0.fr (ts := [13]) (js := []) (by repeat (first | exact Fr.rf | refine Fr.pt ?_ (by decide) (by decide)))
            have n5 : σ 0 15 = f 5 := hp0.n1 (i := 5) (by decide)
            have n553 : σ 6 p.toNat = f (553 + p.toNat) := by
              have z := hp0.1 _ _ _ _ (mp_as (j := p.toNat) (by omega))
              omega
            intro v244 e244 l244 h244
            have e244 : v244 = σ 0 15 := e244
            intro z245 t245 e245 l245 h245
            try have w245 : t245 = 0 := by omega
            have hF := hF.p (j := 15) (v := z245) (by decide)
            refine And.intro (rfl) (And.intro (⟨by omega, by omega⟩) ?_)
            intro v247 e247 l247 h247
            have e247 : v247 = σ 6 p.toNat := e247
            intro z248 t248 e248 l248 h248
            try have w248 : t248 = 0 := by omega
            refine And.intro (rfl) (And.intro (⟨by omega, by omega⟩) ?_)
            have hF := hF.pt (t := 6) (j := p.toNat) (v := z248) (by decide) (by decide)
            have hGa : GR (xput (xput (xput (xput (xput (xput (xput (xput (xput (xput σ 13 0 p) 13 1 q) 13 2 kind) 13 3 r1) 13 4 (-1)) 13 5 (-1)) 13 6 1) 13 7 2) 0 15 z245) 6 p.toNat z248) (acF f p.toNat) := (hGs.num (i := 5) (t := 0) (j := 15) (c := 0) (v := wr (f 5 + 1)) (w := z245) (by decide) (by unfold wr; omega) (by decide) (by decide)).num (mp_as (j := p.toNat) (by omega)) (v := wr (f (553 + p.toNat) + 1)) (w := z248) (by unfold wr; omega) (by decide) (by omega)
            obtain ⟨hVa, oa⟩ := hp1.ac (a := p.toNat) (by omega)
            have oak := oa (151 + 13 * p.toNat + kind.toNat) (by omega) (by omega)
            refine xMVp (sh := shH) (ci := 3) (τ := [0, 1, 2, 3, 4, 5, 6, 7, 8, 9, 10, 11, 12]) (E := xT kX3_sureOf) (t := 9) (r := [xvi p, xvi kind]) (σ := (xput (xput (xput (xput (xput (xput (xput (xput (xput (xput σ 13 0 p) 13 1 q) 13 2 kind) 13 3 r1) 13 4 (-1)) 13 5 (-1)) 13 6 1) 13 7 2) 0 15 z245) 6 p.toNat z248)) rfl rfl xbk_sel (fun Q250 hQ250 => sX3_sureOf (σ := xsel [0, 1, 2, 3, 4, 5, 6, 7, 8, 9, 10, 11, 12] (xput (xput (xput (xput (xput (xput (xput (xput (xput (xput σ 13 0 p) 13 1 q) 13 2 kind) 13 3 r1) 13 4 (-1)) 13 5 (-1)) 13 6 1) 13 7 2) 0 15 z245) 6 p.toNat z248)) (p := p) (kind := kind) hp2 hp4 (fun r250 p250 => hQ250 _ ?_))
            have p250 : r250 = (xput (xput (xput (xput (xput (xput (xput (xput (xput (xput σ 13 0 p) 13 1 q) 13 2 kind) 13 3 r1) 13 4 (-1)) 13 5 (-1)) 13 6 1) 13 7 2) 0 15 z245) 6 p.toNat z248) 10 (13 * p + kind).toNat := p250
            have p250 := p250.trans ((hGa.vk hp2 hp4).trans oak)
            refine And.intro (fun c251 => ?_) (fun c251 => ?_)
            · exact lp_164 (xput (xput (xput (xput (xput (xput (xput (xput (xput (xput σ 13 0 p) 13 1 q) 13 2 kind) 13 3 r1) 13 4 (-1)) 13 5 (-1)) 13 6 1) 13 7 2) 0 15 z245) 6 p.toNat z248) ⟨hF, (by unfold ak1F; rw [if_neg (by omega)]; exact hGa), (show p = p from rfl), (show q = q from rfl), (show kind = kind from rfl), (show r1 = (if gvs f q.toNat kind.toNat lies then f (60 + 13 * q.toNat + kind.toNat) else 0) from (by first | (rw [if_pos (by omega)]; done) | (rw [if_neg (by omega)]; done) | (rw [if_pos (by omega)]; omega) | (rw [if_neg (by omega)]; omega))), (show (-1) = -1 from rfl), (show (-1) = -1 from rfl), (show 1 = (if 0 < f (60 + 13 * q.toNat + kind.toNat) ∧ lies = 1 then 1 else 0) from (by first | (rw [if_pos (by omega)]; done) | (rw [if_neg (by omega)]; done) | (rw [if_pos (by omega)]; omega) | (rw [if_neg (by omega)]; omega))), (show 2 = sureF f q.toNat kind.toNat from (by unfold sureF; rw [show ((kind.toNat : Nat) : Int) = kind from by omega]; first | (rw [if_pos (by omega)]; done) | (rw [if_neg (by omega), if_pos (by omega)]; done) | (rw [if_neg (by omega), if_neg (by omega)]; done)))⟩
            · refine xMVf (sh := shH) (ci := 3) (τ := [0, 1, 2, 3, 4, 5, 6, 7, 8, 9, 10, 11, 12]) (E := xT kX3_reveal) (t := 9) (r := [xvi p, xvi kind]) (σ := (xput (xput (xput (xput (xput (xput (xput (xput (xput (xput σ 13 0 p) 13 1 q) 13 2 kind) 13 3 r1) 13 4 (-1)) 13 5 (-1)) 13 6 1) 13 7 2) 0 15 z245) 6 p.toNat z248)) rfl rfl (fun Q252 hQ252 => sX3_revealG (σ := xsel [0, 1, 2, 3, 4, 5, 6, 7, 8, 9, 10, 11, 12] (xput (xput (xput (xput (xput (xput (xput (xput (xput (xput σ 13 0 p) 13 1 q) 13 2 kind) 13 3 r1) 13 4 (-1)) 13 5 (-1)) 13 6 1) 13 7 2) 0 15 z245) 6 p.toNat z248)) (f := acF f p.toNat) (p := p) (kind := kind) hp2 hp4 hGa.sel (by omega) (fun ς252 f252 p252 => hQ252 _ _ ?_))
              replace f252 : Fr [9, 10, 11, 12] [] (xput (xput (xput (xput (xput (xput (xput (xput (xput (xput σ 13 0 p) 13 1 q) 13 2 kind) 13 3 r1) 13 4 (-1)) 13 5 (-1)) 13 6 1) 13 7 2) 0 15 z245) 6 p.toNat z248) (xbk [0, 1, 2, 3, 4, 5, 6, 7, 8, 9, 10, 11, 12] (xput (xput (xput (xput (xput (xput (xput (xput (xput (xput σ 13 0 p) 13 1 q) 13 2 kind) 13 3 r1) 13 4 (-1)) 13 5 (-1)) 13 6 1) 13 7 2) 0 15 z245) 6 p.toNat z248) ς252) := f252.bk0 (by decide) (by decide) (by decide)
              replace p252 : GR (xbk [0, 1, 2, 3, 4, 5, 6, 7, 8, 9, 10, 11, 12] (xput (xput (xput (xput (xput (xput (xput (xput (xput (xput σ 13 0 p) 13 1 q) 13 2 kind) 13 3 r1) 13 4 (-1)) 13 5 (-1)) 13 6 1) 13 7 2) 0 15 z245) 6 p.toNat z248) ς252) (learnF (acF f p.toNat) p.toNat kind) := p252.bk
              generalize xbk [0, 1, 2, 3, 4, 5, 6, 7, 8, 9, 10, 11, 12] (xput (xput (xput (xput (xput (xput (xput (xput (xput (xput σ 13 0 p) 13 1 q) 13 2 kind) 13 3 r1) 13 4 (-1)) 13 5 (-1)) 13 6 1) 13 7 2) 0 15 z245) 6 p.toNat z248) ς252 = σ252 at f252 p252 ⊢
              have hF := hF.tr f252 (by decide) (by decide)
              have x13 : ∀ j, σ252 13 j = (xput (xput (xput (xput (xput (xput (xput (xput (xput (xput σ 13 0 p) 13 1 q) 13 2 kind) 13 3 r1) 13 4 (-1)) 13 5 (-1)) 13 6 1) 13 7 2) 0 15 z245) 6 p.toNat z248) 13 j := fun j => congrFun (f252.1 13 (by decide) (by decide)) j
              exact lp_164 σ252 ⟨hF, (by unfold ak1F; rw [if_pos (by omega), show ((kind.toNat : Nat) : Int) = kind from by omega]; exact p252), (x13 0).trans (show p = p from rfl), (x13 1).trans (show q = q from rfl), (x13 2).trans (show kind = kind from rfl), (x13 3).trans (show r1 = (if gvs f q.toNat kind.toNat lies then f (60 + 13 * q.toNat + kind.toNat) else 0) from (by first | (rw [if_pos (by omega)]; done) | (rw [if_neg (by omega)]; done) | (rw [if_pos (by omega)]; omega) | (rw [if_neg (by omega)]; omega))), (x13 4).trans (show (-1) = -1 from rfl), (x13 5).trans (show (-1) = -1 from rfl), (x13 6).trans (show 1 = (if 0 < f (60 + 13 * q.toNat + kind.toNat) ∧ lies = 1 then 1 else 0) from (by first | (rw [if_pos (by omega)]; done) | (rw [if_neg (by omega)]; done) | (rw [if_pos (by omega)]; omega) | (rw [if_neg (by omega)]; omega))), (x13 7).trans (show 2 = sureF f q.toNat kind.toNat from (by unfold sureF; rw [show ((kind.toNat : Nat) : Int) = kind from by omega]; first | (rw [if_pos (by omega)]; done) | (rw [if_neg (by omega), if_pos (by omega)]; done) | (rw [if_neg (by omega), if_neg (by omega)]; done)))⟩

