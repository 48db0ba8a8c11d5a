set_option maxHeartbeats 4000000 in
set_option maxRecDepth 100000 in
theorem pX5_keep {w : Nat → Bool} {gv : xV} {σ : xS} {Q : Option xV → xS → Prop} {Z : Nat → List xV → xS → Prop} (hp0 : (0 ≤ σ 39 1 ∧ σ 39 1 ≤ 7)) (hp1 : (0 ≤ σ 39 2 ∧ σ 39 2 ≤ 8)) (hQ : ∀ σ' : xS, Fr [39] [] σ σ' → ((0 ≤ σ' 39 1 ∧ σ' 39 1 ≤ 7) ∧ (0 ≤ σ' 39 2 ∧ σ' 39 2 ≤ 8)) → Q none σ') : xTE (kX5_keep_b w) Q Z 41 [xvr 39, gv] σ := by
  intro X hX hZZ
  have hF : Fr [39] [] σ σ := Fr.rf
  refine hX 400 41 _ _ ?_
  intro v1 e1 l1 h1
  have e1 : v1 = σ 39 1 := e1
  intro z2 t2 e2 l2 h2
  try have w2 : t2 = 0 := by omega
  refine And.intro (fun c3 => ?_) (fun c3 => ?_)
  · have hF := hF.pt (t := 39) (j := 1) (v := 0) (by decide) (by decide)
    intro v5 e5 l5 h5
    have e5 : v5 = σ 39 2 := e5
    intro z6 t6 e6 l6 h6
    try have w6 : t6 = 0 := by omega
    intro r7 o7 a7 b7
    have hF := hF.pt (t := 39) (j := 2) (v := r7) (by decide) (by decide)
    refine And.intro rfl (And.intro rfl ?_)
    exact hQ _ hF (show (0 ≤ (0) ∧ (0) ≤ 7) ∧ (0 ≤ (r7) ∧ (r7) ≤ 8) from by first | trivial | omega)
  · intro v9 e9 l9 h9
    have e9 : v9 = σ 39 1 := e9
    intro z10 t10 e10 l10 h10
    try have w10 : t10 = 0 := by omega
    have hF := hF.pt (t := 39) (j := 1) (v := z10) (by decide) (by decide)
    intro v12 e12 l12 h12
    have e12 : v12 = σ 39 2 := e12
    intro z13 t13 e13 l13 h13
    try have w13 : t13 = 0 := by omega
    intro r14 o14 a14 b14
    have hF := hF.pt (t := 39) (j := 2) (v := r14) (by decide) (by decide)
    refine And.intro rfl (And.intro rfl ?_)
    exact hQ _ hF (show (0 ≤ (z10) ∧ (z10) ≤ 7) ∧ (0 ≤ (r14) ∧ (r14) ≤ 8) from by first | trivial | omega)
set_option maxHeartbeats 4000000 in
set_option maxRecDepth 100000 in
theorem pX10_ask_a {w : Nat → Bool} {σ : xS} {p q kind lies : Int} {Q : Option xV → xS → Prop} {Z : Nat → List xV → xS → Prop} (hp0 : JG (xsel [2, 3, 4, 5, 6, 7, 8, 9, 10, 11, 12, 13, 14] σ)) (hQ : ∀ r : Int, ∀ σ' : xS, Fr [] [] σ σ' → Q (some (xvi r)) σ')(hZ : ∀ wn : Int, (0 ≤ p ∧ p ≤ 5) → (0 ≤ q ∧ q ≤ 5) → (0 ≤ kind ∧ kind ≤ 12) → (0 ≤ lies ∧ lies ≤ 1) → Z 46 [xvr 0, xvi p, xvi q, xvi kind, xvi lies, xvi wn] σ) : xTE (kX10_ask_a w) Q Z 0 [xvr 0, xvi p, xvi q, xvi kind, xvi lies, xvu] σ := by
  intro X hX hZZ
  have hF : Fr [] [] σ σ := Fr.rf
  refine hX 400 0 _ _ ?_
  have hb0 : 0 ≤ σ 2 0 ∧ σ 2 0 ≤ 13 := hp0.1.1.1
  have hb1 : 0 ≤ σ 2 1 ∧ σ 2 1 ≤ 6 := hp0.1.1.2.1
  have hb8 : 0 ≤ σ 2 8 ∧ σ 2 8 ≤ σ 2 9 ∧ σ 2 9 ≤ 52 := hp0.1.1.2.2.1
  have hb9 : 0 ≤ σ 11 2 ∧ σ 11 2 ≤ 52 := hp0.1.2.2.2
  have lp_21 : ∀ (_ : Unit), (True) → X 21 [xvr 0, xvi p, xvi q, xvi kind, xvi lies, xvu] σ := by
    intro _ hv_21
    refine hX 400 21 _ _ ?_
    refine And.intro rfl ?_
    exact hQ _ _ hF
  refine xMVp (sh := (shW wlVF0 w)) (ci := 10) (τ := [0, 1, 2, 3, 4, 5, 6, 7, 8, 9, 10, 11, 12, 13, 14, 15, 16, 17, 18, 19, 20, 21, 22, 23, 24, 25, 26, 27, 28, 29, 30, 31, 32, 33, 34, 35, 36, 37, 38, 39, 40, 41, 42, 43, 44, 45, 46]) (E := xT kX10_areSuch) (t := 0) (r := [xvi p, xvi q, xvi kind]) (σ := σ) rfl rfl xbk_sel (fun Q2 hQ2 => sX10_areSuch (σ := xsel [0, 1, 2, 3, 4, 5, 6, 7, 8, 9, 10, 11, 12, 13, 14, 15, 16, 17, 18, 19, 20, 21, 22, 23, 24, 25, 26, 27, 28, 29, 30, 31, 32, 33, 34, 35, 36, 37, 38, 39, 40, 41, 42, 43, 44, 45, 46] σ) (p := p) (q := q) (kind := kind) (show JG (xsel [2, 3, 4, 5, 6, 7, 8, 9, 10, 11, 12, 13, 14] (xsel [0, 1, 2, 3, 4, 5, 6, 7, 8, 9, 10, 11, 12, 13, 14, 15, 16, 17, 18, 19, 20, 21, 22, 23, 24, 25, 26, 27, 28, 29, 30, 31, 32, 33, 34, 35, 36, 37, 38, 39, 40, 41, 42, 43, 44, 45, 46] σ)) from by exact hp0) (fun r2 p2 => hQ2 _ ?_))
  have p2 : (r2 = 1 ∧ (0 ≤ p ∧ p < (σ 2 1)) ∧ (0 ≤ q ∧ q < (σ 2 1)) ∧ (0 ≤ kind ∧ kind < (σ 2 0))) ∨ (r2 = 0 ∧ (0 : Int) ≤ 0) := p2
  refine And.intro (fun c3 => ?_) (fun c3 => ?_)
  · replace p2 : (0 : Int) ≤ 0 := by
      rcases p2 with q | q
      · exact absurd q.1 (by omega)
      · exact q.2
    exact lp_21 () (show True from by first | trivial | omega | (refine ⟨by assumption, ?_⟩; omega) | (refine ⟨?_, ?_⟩ <;> omega))
  · replace p2 : (0 ≤ p ∧ p < (σ 2 1)) ∧ (0 ≤ q ∧ q < (σ 2 1)) ∧ (0 ≤ kind ∧ kind < (σ 2 0)) := by
      rcases p2 with q | q
      · exact q.2
      · exact absurd q.1 (by omega)
    refine And.intro (fun c4 => ?_) (fun c4 => ?_)
    · exact lp_21 () (show True from by first | trivial | omega | (refine ⟨by assumption, ?_⟩; omega) | (refine ⟨?_, ?_⟩ <;> omega))
    · refine And.intro (fun c5 => ?_) (fun c5 => ?_)
      · refine xMVp (sh := (shW wlVF0 w)) (ci := 2) (τ := [2, 3, 4, 5, 6, 7, 8, 9, 10, 11, 12, 13, 14]) (E := xT kX2_whyNot) (t := 2) (r := [xvi p, xvi q, xvi kind]) (σ := σ) rfl rfl xbk_sel (fun Q6 hQ6 => sX2_whyNot (σ := xsel [2, 3, 4, 5, 6, 7, 8, 9, 10, 11, 12, 13, 14] σ) (p := p) (q := q) (kind := kind) (show 0 ≤ p ∧ p ≤ 5 from by omega) (show 0 ≤ kind ∧ kind ≤ 12 from by omega) (fun r6 p6 => hQ6 _ ?_))
        have p6 : 0 ≤ r6 ∧ r6 ≤ 4 := p6
        refine And.intro (Nat.le_of_ble_eq_true rfl) ?_
        show xw _ _ _ _ _ _ _ _ _ _ [xvr 0, xvi p, xvi q, xvi kind, xvi lies, xvi r6] _ _
        refine And.intro (fun c7 => ?_) (fun c7 => ?_)
        · exact hZZ _ _ _ (hZ _ (by omega) (by omega) (by omega) (by omega))
        · intro z8 t8 e8 l8 h8
          try have w8 : t8 = 0 := by omega
          refine And.intro rfl ?_
          exact hQ _ _ hF
      · exact lp_21 () (show True from by first | trivial | omega | (refine ⟨by assumption, ?_⟩; omega) | (refine ⟨?_, ?_⟩ <;> omega))
set_option maxHeartbeats 4000000 in
set_option maxRecDepth 100000 in
theorem pX10_ask_b {w : Nat → Bool} {σ : xS} {p q kind lies wn : Int} {Q : Option xV → xS → Prop} {Z : Nat → List xV → xS → Prop} (hp0 : JG (xsel [2, 3, 4, 5, 6, 7, 8, 9, 10, 11, 12, 13, 14] σ)) (hp1 : 0 ≤ p ∧ p ≤ 5) (hp2 : 0 ≤ q ∧ q ≤ 5) (hp3 : 0 ≤ kind ∧ kind ≤ 12) (hQ : ∀ r : Int, ∀ σ' : xS, Fr [2, 4, 5, 7, 8, 9, 10, 11, 12, 13, 14, 43] [] σ σ' → (JG (xsel [2, 3, 4, 5, 6, 7, 8, 9, 10, 11, 12, 13, 14] σ')) → Q (some (xvi r)) σ') : xTE (kX10_ask_b w) Q Z 57 [xvr 0, xvi p, xvi q, xvi kind, xvi lies, xvi wn] σ := by
  intro X hX hZZ
  have hF : Fr [2, 4, 5, 7, 8, 9, 10, 11, 12, 13, 14, 43] [] σ σ := Fr.rf
  refine hX 400 57 _ _ ?_
  have hb0 : 0 ≤ σ 2 0 ∧ σ 2 0 ≤ 13 := hp0.1.1.1
  have hb1 : 0 ≤ σ 2 1 ∧ σ 2 1 ≤ 6 := hp0.1.1.2.1
  have hb8 : 0 ≤ σ 2 8 ∧ σ 2 8 ≤ σ 2 9 ∧ σ 2 9 ≤ 52 := hp0.1.1.2.2.1
  have hb9 : 0 ≤ σ 11 2 ∧ σ 11 2 ≤ 52 := hp0.1.2.2.2
  have hC := hp0.1
  refine And.intro (fun c1 => ?_) (fun c1 => ?_)
  · refine xMVf (sh := (shW wlVF0 w)) (ci := 2) (τ := [2, 3, 4, 5, 6, 7, 8, 9, 10, 11, 12, 13, 14, 43]) (E := xT kX2_doAsking) (t := 2) (r := [xvi p, xvi q, xvi kind, xvi 0, xvr 43]) (σ := σ) rfl rfl (fun Q2 hQ2 => sX2_doAsking (σ := xsel [2, 3, 4, 5, 6, 7, 8, 9, 10, 11, 12, 13, 14, 43] σ) (p := p) (q := q) (kind := kind) (lies := 0) (show CG (xsel [2, 3, 4, 5, 6, 7, 8, 9, 10, 11, 12, 13, 14, 43] σ) from hC) (show 0 ≤ p ∧ p ≤ 5 from by omega) (show 0 ≤ q ∧ q ≤ 5 from by omega) (show 0 ≤ kind ∧ kind ≤ 12 from by omega) (fun r2 ς2 f2 p2 => hQ2 _ _ ?_))
    have kq2_0 : (xbk [2, 3, 4, 5, 6, 7, 8, 9, 10, 11, 12, 13, 14, 43] σ ς2) 2 0 = σ 2 0 := f2.2 0 (by decide)
    have kq2_1 : (xbk [2, 3, 4, 5, 6, 7, 8, 9, 10, 11, 12, 13, 14, 43] σ ς2) 2 1 = σ 2 1 := f2.2 1 (by decide)
    have kq2_2 : (xbk [2, 3, 4, 5, 6, 7, 8, 9, 10, 11, 12, 13, 14, 43] σ ς2) 2 2 = σ 2 2 := f2.2 2 (by decide)
    have kq2_9 : (xbk [2, 3, 4, 5, 6, 7, 8, 9, 10, 11, 12, 13, 14, 43] σ ς2) 2 9 = σ 2 9 := f2.2 9 (by decide)
    replace f2 : Fr [2, 4, 5, 7, 8, 9, 10, 11, 12, 13, 14, 43] [] σ (xbk [2, 3, 4, 5, 6, 7, 8, 9, 10, 11, 12, 13, 14, 43] σ ς2) := f2.bk (by decide) (by decide)
    replace p2 : CG (xsel [2, 3, 4, 5, 6, 7, 8, 9, 10, 11, 12, 13, 14, 43] (xbk [2, 3, 4, 5, 6, 7, 8, 9, 10, 11, 12, 13, 14, 43] σ ς2)) := p2
    generalize xbk [2, 3, 4, 5, 6, 7, 8, 9, 10, 11, 12, 13, 14, 43] σ ς2 = σ2 at f2 kq2_0 kq2_1 kq2_2 kq2_9 p2 ⊢
    have hF := hF.tr f2 (by decide) (by decide)
    have hJ : JG (xsel [2, 3, 4, 5, 6, 7, 8, 9, 10, 11, 12, 13, 14] σ2) := by
      refine ⟨(show CG (xsel [2, 3, 4, 5, 6, 7, 8, 9, 10, 11, 12, 13, 14] σ2) from p2), ?_, fun i hi => ?_⟩
      · show σ2 2 2 = 0 ∨ σ2 2 2 = 1
        rw [kq2_2]; exact hp0.2.1
      · have hi : (i : Int) < σ2 2 9 := hi
        show σ2 6 i < σ2 2 0
        rw [kq2_9] at hi
        rw [kq2_0, f2.1 6 (by decide) (by decide)]; exact hp0.2.2 i hi
    refine And.intro rfl ?_
    exact hQ _ _ hF hJ
  · refine xMVf (sh := (shW wlVF0 w)) (ci := 2) (τ := [2, 3, 4, 5, 6, 7, 8, 9, 10, 11, 12, 13, 14, 43]) (E := xT kX2_doAsking) (t := 2) (r := [xvi p, xvi q, xvi kind, xvi 1, xvr 43]) (σ := σ) rfl rfl (fun Q3 hQ3 => sX2_doAsking (σ := xsel [2, 3, 4, 5, 6, 7, 8, 9, 10, 11, 12, 13, 14, 43] σ) (p := p) (q := q) (kind := kind) (lies := 1) (show CG (xsel [2, 3, 4, 5, 6, 7, 8, 9, 10, 11, 12, 13, 14, 43] σ) from hC) (show 0 ≤ p ∧ p ≤ 5 from by omega) (show 0 ≤ q ∧ q ≤ 5 from by omega) (show 0 ≤ kind ∧ kind ≤ 12 from by omega) (fun r3 ς3 f3 p3 => hQ3 _ _ ?_))
    have kq3_0 : (xbk [2, 3, 4, 5, 6, 7, 8, 9, 10, 11, 12, 13, 14, 43] σ ς3) 2 0 = σ 2 0 := f3.2 0 (by decide)
    have kq3_1 : (xbk [2, 3, 4, 5, 6, 7, 8, 9, 10, 11, 12, 13, 14, 43] σ ς3) 2 1 = σ 2 1 := f3.2 1 (by decide)
    have kq3_2 : (xbk [2, 3, 4, 5, 6, 7, 8, 9, 10, 11, 12, 13, 14, 43] σ ς3) 2 2 = σ 2 2 := f3.2 2 (by decide)
    have kq3_9 : (xbk [2, 3, 4, 5, 6, 7, 8, 9, 10, 11, 12, 13, 14, 43] σ ς3) 2 9 = σ 2 9 := f3.2 9 (by decide)
    replace f3 : Fr [2, 4, 5, 7, 8, 9, 10, 11, 12, 13, 14, 43] [] σ (xbk [2, 3, 4, 5, 6, 7, 8, 9, 10, 11, 12, 13, 14, 43] σ ς3) := f3.bk (by decide) (by decide)
    replace p3 : CG (xsel [2, 3, 4, 5, 6, 7, 8, 9, 10, 11, 12, 13, 14, 43] (xbk [2, 3, 4, 5, 6, 7, 8, 9, 10, 11, 12, 13, 14, 43] σ ς3)) := p3
    generalize xbk [2, 3, 4, 5, 6, 7, 8, 9, 10, 11, 12, 13, 14, 43] σ ς3 = σ3 at f3 kq3_0 kq3_1 kq3_2 kq3_9 p3 ⊢
    have hF := hF.tr f3 (by decide) (by decide)
    have hJ : JG (xsel [2, 3, 4, 5, 6, 7, 8, 9, 10, 11, 12, 13, 14] σ3) := by
      refine ⟨(show CG (xsel [2, 3, 4, 5, 6, 7, 8, 9, 10, 11, 12, 13, 14] σ3) from p3), ?_, fun i hi => ?_⟩
      · show σ3 2 2 = 0 ∨ σ3 2 2 = 1
        rw [kq3_2]; exact hp0.2.1
      · have hi : (i : Int) < σ3 2 9 := hi
        show σ3 6 i < σ3 2 0
        rw [kq3_9] at hi
        rw [kq3_0, f3.1 6 (by decide) (by decide)]; exact hp0.2.2 i hi
    refine And.intro rfl ?_
    exact hQ _ _ hF hJ
set_option maxHeartbeats 4000000 in
set_option maxRecDepth 100000 in
theorem pX10_deal_a {w : Nat → Bool} {σ : xS} {n seed : Int} {Q : Option xV → xS → Prop} {Z : Nat → List xV → xS → Prop} (hp0 : JG (xsel [2, 3, 4, 5, 6, 7, 8, 9, 10, 11, 12, 13, 14] σ)) (hQ : ∀ r : Int, ∀ σ' : xS, Fr [] [] σ σ' → Q (some (xvi r)) σ')(hZ : Z 24 [xvr 0, xvi n, xvi seed] σ) : xTE (kX10_deal_a w) Q Z 0 [xvr 0, xvi n, xvi seed] σ := by
  intro X hX hZZ
  have hF : Fr [] [] σ σ := Fr.rf
  refine hX 400 0 _ _ ?_
  have hb0 : 0 ≤ σ 2 0 ∧ σ 2 0 ≤ 13 := hp0.1.1.1
  have hb1 : 0 ≤ σ 2 1 ∧ σ 2 1 ≤ 6 := hp0.1.1.2.1
  have hb8 : 0 ≤ σ 2 8 ∧ σ 2 8 ≤ σ 2 9 ∧ σ 2 9 ≤ 52 := hp0.1.1.2.2.1
  have hb9 : 0 ≤ σ 11 2 ∧ σ 11 2 ≤ 52 := hp0.1.2.2.2
  have lp_22 : ∀ (_ : Unit), (True) → X 22 [xvr 0, xvi n, xvi seed] σ := by
    intro _ hv_22
    refine hX 400 22 _ _ ?_
    refine And.intro rfl ?_
    refine And.intro (by omega) ?_
    exact hQ _ _ hF
  refine And.intro (fun c2 => ?_) (fun c2 => ?_)
  · exact lp_22 () (show True from by first | trivial | omega | (refine ⟨by assumption, ?_⟩; omega) | (refine ⟨?_, ?_⟩ <;> omega))
  · refine And.intro (fun c3 => ?_) (fun c3 => ?_)
    · exact lp_22 () (show True from by first | trivial | omega | (refine ⟨by assumption, ?_⟩; omega) | (refine ⟨?_, ?_⟩ <;> omega))
    · refine xMVp (sh := (shW wlVF0 w)) (ci := 2) (τ := [2, 3, 4, 5, 6, 7, 8, 9, 10, 11, 12, 13, 14]) (E := xT kX2_canDeal) (t := 2) (r := [xvi n]) (σ := σ) rfl rfl xbk_sel (fun Q4 hQ4 => sX2_canDeal (σ := xsel [2, 3, 4, 5, 6, 7, 8, 9, 10, 11, 12, 13, 14] σ) (n := n) (show 0 ≤ (σ 2 0) ∧ (σ 2 0) ≤ 13 from by omega) (show 0 ≤ (σ 2 1) ∧ (σ 2 1) ≤ 6 from by omega) (fun r4 p4 => hQ4 _ ?_))
      have p4 : r4 = 0 ∨ r4 = 1 := p4
      refine And.intro (fun c5 => ?_) (fun c5 => ?_)
      · exact hZZ _ _ _ hZ
      · exact lp_22 () (show True from by first | trivial | omega | (refine ⟨by assumption, ?_⟩; omega) | (refine ⟨?_, ?_⟩ <;> omega))
