set_option maxHeartbeats 4000000 in
set_option maxRecDepth 100000 in
theorem pX10_ask_bF {f : Nat → Int} {w : Nat → Bool} {σ : xS} {p q kind lies wn : Int} {Q : Option xV → xS → Prop} {Z : Nat → List xV → xS → Prop} (hp0 : JG (xsel [2, 3, 4, 5, 6, 7, 8, 9, 10, 11, 12, 13, 14] σ)) (hp1 : gmC 2 σ f) (hp2 : TV f) (hp3 : 0 ≤ p ∧ p ≤ 5) (hp4 : 0 ≤ q ∧ q ≤ 5) (hp5 : 0 ≤ kind ∧ kind ≤ 12) (hp6 : ASK f p q kind ∧ (0 ≤ lies ∧ lies ≤ 1)) (hp7 : whyF f p q kind.toNat = 0) (hQ : ∀ r : Int, ∀ σ' : xS, Fr [2, 4, 5, 7, 8, 9, 10, 11, 12, 13, 14, 43] [] σ σ' → (JG (xsel [2, 3, 4, 5, 6, 7, 8, 9, 10, 11, 12, 13, 14] σ') ∧ gmC 2 σ' (askF f p.toNat q.toNat kind.toNat lies) ∧ r = askR f p.toNat q.toNat kind.toNat lies 3 ∧ ∀ i : Nat, i < 8 → σ' 43 i = askR f p.toNat q.toNat kind.toNat lies i) → Q (some (xvi r)) σ') : xTE (kX10_ask_b w) Q Z 57 [xvr 0, xvi p, xvi q, xvi kind, xvi lies, xvi wn] σ := by
  intro X hX hZZ
  have hF : Fr [2, 4, 5, 7, 8, 9, 10, 11, 12, 13, 14, 43] [] σ σ := Fr.rf
  refine hX 400 57 _ _ ?_
  have hb0 : 0 ≤ σ 2 0 ∧ σ 2 0 ≤ 13 := hp0.1.1.1
  have hb1 : 0 ≤ σ 2 1 ∧ σ 2 1 ≤ 6 := hp0.1.1.2.1
  have hb8 : 0 ≤ σ 2 8 ∧ σ 2 8 ≤ σ 2 9 ∧ σ 2 9 ≤ 52 := hp0.1.1.2.2.1
  have hb9 : 0 ≤ σ 11 2 ∧ σ 11 2 ≤ 52 := hp0.1.2.2.2
  have hf := hp1
  have hT := hp2
  have n0 : σ 2 0 = f 0 := hf.1.n0 (i := 0) (by decide)
  have n1 : σ 2 1 = f 1 := hf.1.n0 (i := 1) (by decide)
  have m0 := hT.1.1.1.1
  have m1 := hT.1.1.1.2.1
  have m3 := hT.1.1.1.2.2.1
  have hC := hp0.1
  have hA1 := hp6
  have hA2 := hp7
  obtain ⟨hw1, hw2, hw3, hw4⟩ := whyF_0 hA2
  obtain ⟨⟨hA3, hA4, hA5⟩, hA6⟩ := id hA1
  have hT6 := hT.2.2.1
  have hT4 := hT.2.2.2
  have hh9 := (HH_v hT.1.1 (p := p.toNat) (k := kind.toNat) (by omega) (by omega)).1
  have hh8 : HH f p.toNat kind.toNat = f (60 + 13 * p.toNat + kind.toNat) := rfl
  refine And.intro (fun c1 => ?_) (fun c1 => ?_)
  · refine xMVf (sh := (shW wlVF0 w)) (ci := 2) (τ := [2, 3, 4, 5, 6, 7, 8, 9, 10, 11, 12, 13, 14, 43]) (E := xT kX2_doAsking) (t := 2) (r := [xvi p, xvi q, xvi kind, xvi 0, xvr 43]) (σ := σ) rfl rfl (fun Q2 hQ2 => sX2_doAskingJ (σ := xsel [2, 3, 4, 5, 6, 7, 8, 9, 10, 11, 12, 13, 14, 43] σ) (p := p) (q := q) (kind := kind) (lies := 0) (show CG (xsel [2, 3, 4, 5, 6, 7, 8, 9, 10, 11, 12, 13, 14, 43] σ) from hC) (show 0 ≤ p ∧ p ≤ 5 from by omega) (show 0 ≤ q ∧ q ≤ 5 from by omega) (show 0 ≤ kind ∧ kind ≤ 12 from by omega) (show GR (xsel [2, 3, 4, 5, 6, 7, 8, 9, 10, 11, 12, 13, 14, 43] σ) f from (gm_sel hf (by decide))) (show VX f from hT.1) (show p < f 1 from by omega) (show ¬ p = q from by omega) (show f 2 = 0 ∨ f 2 = 1 from hT.2.1) (show 0 ≤ f 6 ∧ f 6 < f 1 from by omega) (show 1 ≤ f (60 + 13 * p.toNat + kind.toNat) from by omega) (show 0 = 0 ∨ 0 = 1 from by decide) (fun r2 ς2 f2 p2 => hQ2 _ _ ?_))
    have kq2_0 : (xbk [2, 3, 4, 5, 6, 7, 8, 9, 10, 11, 12, 13, 14, 43] σ ς2) 2 0 = σ 2 0 := f2.2 0 (by decide)
    have kq2_1 : (xbk [2, 3, 4, 5, 6, 7, 8, 9, 10, 11, 12, 13, 14, 43] σ ς2) 2 1 = σ 2 1 := f2.2 1 (by decide)
    have kq2_2 : (xbk [2, 3, 4, 5, 6, 7, 8, 9, 10, 11, 12, 13, 14, 43] σ ς2) 2 2 = σ 2 2 := f2.2 2 (by decide)
    have kq2_9 : (xbk [2, 3, 4, 5, 6, 7, 8, 9, 10, 11, 12, 13, 14, 43] σ ς2) 2 9 = σ 2 9 := f2.2 9 (by decide)
    replace f2 : Fr [2, 4, 5, 7, 8, 9, 10, 11, 12, 13, 14, 43] [] σ (xbk [2, 3, 4, 5, 6, 7, 8, 9, 10, 11, 12, 13, 14, 43] σ ς2) := f2.bk (by decide) (by decide)
    replace p2 : CG (xsel [2, 3, 4, 5, 6, 7, 8, 9, 10, 11, 12, 13, 14, 43] (xbk [2, 3, 4, 5, 6, 7, 8, 9, 10, 11, 12, 13, 14, 43] σ ς2)) ∧ gmC 2 (xbk [2, 3, 4, 5, 6, 7, 8, 9, 10, 11, 12, 13, 14, 43] σ ς2) (askF f p.toNat q.toNat kind.toNat 0) ∧ r2 = askR f p.toNat q.toNat kind.toNat 0 3 ∧ ∀ i : Nat, i < 8 → (xbk [2, 3, 4, 5, 6, 7, 8, 9, 10, 11, 12, 13, 14, 43] σ ς2) 43 i = askR f p.toNat q.toNat kind.toNat 0 i := ⟨p2.1, gm_bk p2.2.1.1 p2.2.1.2 (by decide), p2.2.2.1, p2.2.2.2⟩
    generalize xbk [2, 3, 4, 5, 6, 7, 8, 9, 10, 11, 12, 13, 14, 43] σ ς2 = σ2 at f2 kq2_0 kq2_1 kq2_2 kq2_9 p2 ⊢
    have hF := hF.tr f2 (by decide) (by decide)
    have hJ : JG (xsel [2, 3, 4, 5, 6, 7, 8, 9, 10, 11, 12, 13, 14] σ2) := by
      refine ⟨(show CG (xsel [2, 3, 4, 5, 6, 7, 8, 9, 10, 11, 12, 13, 14] σ2) from p2.1), ?_, fun i hi => ?_⟩
      · show σ2 2 2 = 0 ∨ σ2 2 2 = 1
        rw [kq2_2]; exact hp0.2.1
      · have hi : (i : Int) < σ2 2 9 := hi
        show σ2 6 i < σ2 2 0
        rw [kq2_9] at hi
        rw [kq2_0, f2.1 6 (by decide) (by decide)]; exact hp0.2.2 i hi
    refine And.intro rfl ?_
    have hll : lies = 0 := by omega
    subst hll
    exact hQ _ _ hF ⟨hJ, p2.2.1, p2.2.2.1, p2.2.2.2⟩
  · refine xMVf (sh := (shW wlVF0 w)) (ci := 2) (τ := [2, 3, 4, 5, 6, 7, 8, 9, 10, 11, 12, 13, 14, 43]) (E := xT kX2_doAsking) (t := 2) (r := [xvi p, xvi q, xvi kind, xvi 1, xvr 43]) (σ := σ) rfl rfl (fun Q3 hQ3 => sX2_doAskingJ (σ := xsel [2, 3, 4, 5, 6, 7, 8, 9, 10, 11, 12, 13, 14, 43] σ) (p := p) (q := q) (kind := kind) (lies := 1) (show CG (xsel [2, 3, 4, 5, 6, 7, 8, 9, 10, 11, 12, 13, 14, 43] σ) from hC) (show 0 ≤ p ∧ p ≤ 5 from by omega) (show 0 ≤ q ∧ q ≤ 5 from by omega) (show 0 ≤ kind ∧ kind ≤ 12 from by omega) (show GR (xsel [2, 3, 4, 5, 6, 7, 8, 9, 10, 11, 12, 13, 14, 43] σ) f from (gm_sel hf (by decide))) (show VX f from hT.1) (show p < f 1 from by omega) (show ¬ p = q from by omega) (show f 2 = 0 ∨ f 2 = 1 from hT.2.1) (show 0 ≤ f 6 ∧ f 6 < f 1 from by omega) (show 1 ≤ f (60 + 13 * p.toNat + kind.toNat) from by omega) (show 1 = 0 ∨ 1 = 1 from by decide) (fun r3 ς3 f3 p3 => hQ3 _ _ ?_))
    have kq3_0 : (xbk [2, 3, 4, 5, 6, 7, 8, 9, 10, 11, 12, 13, 14, 43] σ ς3) 2 0 = σ 2 0 := f3.2 0 (by decide)
    have kq3_1 : (xbk [2, 3, 4, 5, 6, 7, 8, 9, 10, 11, 12, 13, 14, 43] σ ς3) 2 1 = σ 2 1 := f3.2 1 (by decide)
    have kq3_2 : (xbk [2, 3, 4, 5, 6, 7, 8, 9, 10, 11, 12, 13, 14, 43] σ ς3) 2 2 = σ 2 2 := f3.2 2 (by decide)
    have kq3_9 : (xbk [2, 3, 4, 5, 6, 7, 8, 9, 10, 11, 12, 13, 14, 43] σ ς3) 2 9 = σ 2 9 := f3.2 9 (by decide)
    replace f3 : Fr [2, 4, 5, 7, 8, 9, 10, 11, 12, 13, 14, 43] [] σ (xbk [2, 3, 4, 5, 6, 7, 8, 9, 10, 11, 12, 13, 14, 43] σ ς3) := f3.bk (by decide) (by decide)
    replace p3 : CG (xsel [2, 3, 4, 5, 6, 7, 8, 9, 10, 11, 12, 13, 14, 43] (xbk [2, 3, 4, 5, 6, 7, 8, 9, 10, 11, 12, 13, 14, 43] σ ς3)) ∧ gmC 2 (xbk [2, 3, 4, 5, 6, 7, 8, 9, 10, 11, 12, 13, 14, 43] σ ς3) (askF f p.toNat q.toNat kind.toNat 1) ∧ r3 = askR f p.toNat q.toNat kind.toNat 1 3 ∧ ∀ i : Nat, i < 8 → (xbk [2, 3, 4, 5, 6, 7, 8, 9, 10, 11, 12, 13, 14, 43] σ ς3) 43 i = askR f p.toNat q.toNat kind.toNat 1 i := ⟨p3.1, gm_bk p3.2.1.1 p3.2.1.2 (by decide), p3.2.2.1, p3.2.2.2⟩
    generalize xbk [2, 3, 4, 5, 6, 7, 8, 9, 10, 11, 12, 13, 14, 43] σ ς3 = σ3 at f3 kq3_0 kq3_1 kq3_2 kq3_9 p3 ⊢
    have hF := hF.tr f3 (by decide) (by decide)
    have hJ : JG (xsel [2, 3, 4, 5, 6, 7, 8, 9, 10, 11, 12, 13, 14] σ3) := by
      refine ⟨(show CG (xsel [2, 3, 4, 5, 6, 7, 8, 9, 10, 11, 12, 13, 14] σ3) from p3.1), ?_, fun i hi => ?_⟩
      · show σ3 2 2 = 0 ∨ σ3 2 2 = 1
        rw [kq3_2]; exact hp0.2.1
      · have hi : (i : Int) < σ3 2 9 := hi
        show σ3 6 i < σ3 2 0
        rw [kq3_9] at hi
        rw [kq3_0, f3.1 6 (by decide) (by decide)]; exact hp0.2.2 i hi
    refine And.intro rfl ?_
    have hll : lies = 1 := by omega
    subst hll
    exact hQ _ _ hF ⟨hJ, p3.2.1, p3.2.2.1, p3.2.2.2⟩
set_option maxHeartbeats 4000000 in
set_option maxRecDepth 100000 in
theorem pX10_deal_aF {f : Nat → Int} {w : Nat → Bool} {σ : xS} {n seed : Int} {Q : Option xV → xS → Prop} {Z : Nat → List xV → xS → Prop} (hp0 : JG (xsel [2, 3, 4, 5, 6, 7, 8, 9, 10, 11, 12, 13, 14] σ)) (hp1 : gmC 2 σ f) (hp2 : TV f) (hQ : ∀ r : Int, ∀ σ' : xS, Fr [] [] σ σ' → (r = 0 ∧ ¬ DLc2 f n) → Q (some (xvi r)) σ')(hZ : DLc2 f n → Z 24 [xvr 0, xvi n, xvi seed] σ) : xTE (kX10_deal_a w) Q Z 0 [xvr 0, xvi n, xvi seed] σ := by
  intro X hX hZZ
  have hF : Fr [] [] σ σ := Fr.rf
  refine hX 400 0 _ _ ?_
  have hb0 : 0 ≤ σ 2 0 ∧ σ 2 0 ≤ 13 := hp0.1.1.1
  have hb1 : 0 ≤ σ 2 1 ∧ σ 2 1 ≤ 6 := hp0.1.1.2.1
  have hb8 : 0 ≤ σ 2 8 ∧ σ 2 8 ≤ σ 2 9 ∧ σ 2 9 ≤ 52 := hp0.1.1.2.2.1
  have hb9 : 0 ≤ σ 11 2 ∧ σ 11 2 ≤ 52 := hp0.1.2.2.2
  have hf := hp1
  have hT := hp2
  have n0 : σ 2 0 = f 0 := hf.1.n0 (i := 0) (by decide)
  have n1 : σ 2 1 = f 1 := hf.1.n0 (i := 1) (by decide)
  have m0 := hT.1.1.1.1
  have m1 := hT.1.1.1.2.1
  have m3 := hT.1.1.1.2.2.1
  have hC := hp0.1
  have lp_22 : ∀ (_ : Unit), (¬ DLc2 f n) → X 22 [xvr 0, xvi n, xvi seed] σ := by
    intro _ hv_22
    refine hX 400 22 _ _ ?_
    refine And.intro rfl ?_
    refine And.intro (by omega) ?_
    exact hQ _ _ hF ⟨rfl, hv_22⟩
  refine And.intro (fun c2 => ?_) (fun c2 => ?_)
  · exact lp_22 () (fun z => by obtain ⟨z1, z2, z3, z4⟩ := z; omega)
  · refine And.intro (fun c3 => ?_) (fun c3 => ?_)
    · exact lp_22 () (fun z => by obtain ⟨z1, z2, z3, z4⟩ := z; omega)
    · refine xMVp (sh := (shW wlVF0 w)) (ci := 2) (τ := [2, 3, 4, 5, 6, 7, 8, 9, 10, 11, 12, 13, 14]) (E := xT kX2_canDeal) (t := 2) (r := [xvi n]) (σ := σ) rfl rfl xbk_sel (fun Q4 hQ4 => sX2_canDealG (σ := xsel [2, 3, 4, 5, 6, 7, 8, 9, 10, 11, 12, 13, 14] σ) (n := n) (show GR (xsel [2, 3, 4, 5, 6, 7, 8, 9, 10, 11, 12, 13, 14] σ) f from (gm_sel hf (by decide))) (show VX f from hT.1) (show 1 ≤ n ∧ n ≤ 9 from by omega) (fun r4 p4 => hQ4 _ ?_))
      have p4 : (r4 = 1 ∧ 0 < f 1 ∧ 0 < f 0 ∧ n * f 1 ≤ 4 * f 0) ∨ (r4 = 0 ∧ ¬ (0 < f 1 ∧ 0 < f 0 ∧ n * f 1 ≤ 4 * f 0)) := p4
      refine And.intro (fun c5 => ?_) (fun c5 => ?_)
      · exact hZZ _ _ _ (hZ ⟨by omega, by omega, by omega, by omega⟩)
      · exact lp_22 () (fun z => by obtain ⟨z1, z2, z3, z4⟩ := z; omega)
