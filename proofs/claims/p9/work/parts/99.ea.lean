theorem gsf_congr {hs hs2 h h2 : Nat → Int} {a b : Int} {k : Nat} (hk : k < 13) (e1 : ∀ i : Nat, i < 78 → hs2 i = hs i) (e2 : ∀ i : Nat, i < 52 → h2 i = h i) : gsf hs2 h2 a b k = gsf hs h a b k := by
  unfold gsf gcf
  rw [sm_congr (g := fun p => hs2 (13 * p + k)) (g' := fun p => hs (13 * p + k)) (fun p hp => e1 _ (by omega)), sm_congr (n := 52) (g' := fun i => if a ≤ (i : Int) ∧ (i : Int) < b ∧ h i = (k : Int) then 1 else 0) (fun i hi => by rw [e2 i hi])]
/-- a copy of a game is one -/
theorem JG.cp {f g : xS} (h : JG f) (e2 : ∀ i : Nat, (i : Int) < 78 → g 2 i = f 2 i) (e4 : ∀ i : Nat, (i : Int) < 52 → g 4 i = f 4 i) (e10 : ∀ i : Nat, (i : Int) < 78 → g 10 i = f 10 i) (e0 : g 0 0 = f 0 0 ∧ g 0 1 = f 0 1 ∧ g 0 2 = f 0 2 ∧ g 0 8 = f 0 8 ∧ g 0 9 = f 0 9) (e9 : g 9 2 = f 9 2) : JG g := by
  obtain ⟨⟨⟨a1, a2, a3, a4⟩, ⟨b1, b2⟩, c1, d1⟩, f1, f2⟩ := h
  obtain ⟨k0, k1, k2, k8, k9⟩ := e0
  refine ⟨⟨⟨by rw [k0]; exact a1, by rw [k1]; exact a2, by rw [k8, k9]; exact a3, fun i hi => ?_⟩, ⟨fun p k hp hk => ?_, fun k hk => ?_⟩, fun p k hp hk => ?_, by rw [e9]; exact d1⟩, by rw [k2]; exact f1, fun i hi => ?_⟩
  · rw [k9] at hi; rw [e4 i (by omega)]; exact a4 i hi
  · rw [e2 _ (by omega)]; exact b1 p k hp hk
  · rw [k8, k9, gsf_congr hk (fun i hi => e2 i (by omega)) (fun i hi => e4 i (by omega))]; exact b2 k hk
  · rw [e2 _ (by omega), e10 _ (by omega)]; exact c1 p k hp hk
  · rw [k9] at hi; rw [e4 i (by omega), k0]; exact f2 i hi
set_option maxHeartbeats 4000000 in
set_option maxRecDepth 100000 in
theorem sX5_clear {σ : xS} {Q : Option xV → xS → Prop} (hQ : ∀ σ' : xS, Fr [] [2] σ σ' → (σ' 0 2 = 0) → Q none σ') : xT kX5_clear [xvr 0] σ Q := by
  refine ⟨Nat.le_of_ble_eq_true rfl, fun X hX => ?_⟩
  show X 0 [xvr 0] σ
  have hF : Fr [] [2] σ σ := Fr.rf
  refine hX 400 0 _ _ ?_
  have hF := hF.p (j := 2) (v := 0) (by decide)
  refine And.intro rfl (And.intro rfl ?_)
  exact hQ _ hF rfl
set_option maxHeartbeats 4000000 in
set_option maxRecDepth 100000 in
theorem pX10_table {σ : xS} {fine : Int} {Q : Option xV → xS → Prop} {Z : Nat → List xV → xS → Prop} (hp0 : JG (xsel [2, 3, 4, 5, 6, 7, 8, 9, 10, 11, 12, 13, 14] σ)) (hp1 : TG (xsel [32, 33, 30, 31, 1, 15, 16, 17, 18, 19, 20, 21, 22, 23, 24, 25, 26, 27] σ)) (hp2 : 0 ≤ σ 28 1 ∧ σ 28 1 ≤ 40) (hp3 : (0 ≤ σ 39 2 ∧ σ 39 2 ≤ 8) ∧ (0 ≤ σ 39 1 ∧ σ 39 1 ≤ 7)) (hQ : ∀ r : Int, ∀ σ' : xS, Fr [2, 3, 4, 5, 6, 7, 8, 9, 10, 11, 12, 13, 14, 15, 16, 17, 18, 19, 20, 21, 22, 23, 24, 25, 26, 27, 28, 39] [1, 2] σ σ' → (JG (xsel [2, 3, 4, 5, 6, 7, 8, 9, 10, 11, 12, 13, 14] σ') ∧ σ' 0 1 = 0 ∧ (0 ≤ σ' 28 1 ∧ σ' 28 1 ≤ 40) ∧ (0 ≤ σ' 39 2 ∧ σ' 39 2 ≤ 8) ∧ (0 ≤ σ' 39 1 ∧ σ' 39 1 ≤ 7)) → Q (some (xvi r)) σ') : xTE kX10_table_b Q Z 20 [xvr 0, xvi fine] σ := by
  intro X hX hZZ
  have hF : Fr [2, 3, 4, 5, 6, 7, 8, 9, 10, 11, 12, 13, 14, 15, 16, 17, 18, 19, 20, 21, 22, 23, 24, 25, 26, 27, 28, 39] [1, 2] σ σ := Fr.rf
  refine hX 400 20 _ _ ?_
  have hF := hF.p (j := 1) (v := 0) (by decide)
  intro v2 e2 l2 h2
  have e2 : v2 = σ 30 9 := e2
  have hF := hF.p (j := 2) (v := v2) (by decide)
  refine And.intro (fun c4 => ?_) (fun c4 => ?_)
  · refine xMVf (sh := shB1) (ci := 2) (τ := [15, 16, 17, 18, 19, 20, 21, 22, 23, 24, 25, 26, 27]) (E := xT kX2_start) (t := 15) (r := []) (σ := (xput (xput σ 0 1 0) 0 2 v2)) rfl rfl (fun Q5 hQ5 => sX2_start (σ := xsel [15, 16, 17, 18, 19, 20, 21, 22, 23, 24, 25, 26, 27] (xput (xput σ 0 1 0) 0 2 v2))  (show C0x (xsel [15, 16, 17, 18, 19, 20, 21, 22, 23, 24, 25, 26, 27] (xput (xput σ 0 1 0) 0 2 v2)) from by exact hp1.1) (fun ς5 f5 p5 => hQ5 _ _ ?_))
    have kq5_0 : (xbk [15, 16, 17, 18, 19, 20, 21, 22, 23, 24, 25, 26, 27] (xput (xput σ 0 1 0) 0 2 v2) ς5) 15 0 = σ 15 0 := f5.2 0 (by decide)
    have kq5_1 : (xbk [15, 16, 17, 18, 19, 20, 21, 22, 23, 24, 25, 26, 27] (xput (xput σ 0 1 0) 0 2 v2) ς5) 15 1 = σ 15 1 := f5.2 1 (by decide)
    have kq5_2 : (xbk [15, 16, 17, 18, 19, 20, 21, 22, 23, 24, 25, 26, 27] (xput (xput σ 0 1 0) 0 2 v2) ς5) 15 2 = σ 15 2 := f5.2 2 (by decide)
    have kq5_9 : (xbk [15, 16, 17, 18, 19, 20, 21, 22, 23, 24, 25, 26, 27] (xput (xput σ 0 1 0) 0 2 v2) ς5) 15 9 = σ 15 9 := f5.2 9 (by decide)
    replace f5 : Fr [15, 17, 18, 20, 21, 22, 23, 24, 25, 26, 27] [] (xput (xput σ 0 1 0) 0 2 v2) (xbk [15, 16, 17, 18, 19, 20, 21, 22, 23, 24, 25, 26, 27] (xput (xput σ 0 1 0) 0 2 v2) ς5) := f5.bk (by decide) (by decide)
    replace p5 : CG (xsel [15, 16, 17, 18, 19, 20, 21, 22, 23, 24, 25, 26, 27] (xbk [15, 16, 17, 18, 19, 20, 21, 22, 23, 24, 25, 26, 27] (xput (xput σ 0 1 0) 0 2 v2) ς5)) := p5
    generalize xbk [15, 16, 17, 18, 19, 20, 21, 22, 23, 24, 25, 26, 27] (xput (xput σ 0 1 0) 0 2 v2) ς5 = σ5 at f5 kq5_0 kq5_1 kq5_2 kq5_9 p5 ⊢
    have hF := hF.tr f5 (by decide) (by decide)
    have hJT : JG (xsel [15, 16, 17, 18, 19, 20, 21, 22, 23, 24, 25, 26, 27] σ5) := by
      refine ⟨p5, ?_, fun i hi => ?_⟩
      · show σ5 15 2 = 0 ∨ σ5 15 2 = 1
        rw [kq5_2]; exact hp1.2.2.1
      · have hi : (i : Int) < σ5 15 9 := hi
        show σ5 19 i < σ5 15 0
        rw [kq5_9] at hi
        rw [kq5_0, f5.1 19 (by decide) (by decide)]; exact hp1.2.2.2 i hi
    have kz1 : σ5 0 1 = 0 := f5.2 1 (by decide)
    have k39 : σ5 39 1 = σ 39 1 := congrFun (f5.1 39 (by decide) (by decide)) 1
    refine xMVf (sh := shB1) (ci := 2) (τ := [2, 3, 4, 5, 6, 7, 8, 9, 10, 11, 12, 13, 14, 15, 16, 17, 18, 19, 20, 21, 22, 23, 24, 25, 26, 27]) (E := xT kX2_copyFrom) (t := 2) (r := [xvr 15]) (σ := σ5) rfl rfl (fun Q6 hQ6 => sX2_copyFrom (σ := xsel [2, 3, 4, 5, 6, 7, 8, 9, 10, 11, 12, 13, 14, 15, 16, 17, 18, 19, 20, 21, 22, 23, 24, 25, 26, 27] σ5)  (show 0 ≤ (σ5 24 2) ∧ (σ5 24 2) ≤ 52 from hJT.1.2.2.2) (show (σ5 15 2) = 0 ∨ (σ5 15 2) = 1 from hJT.2.1) (fun ς6 f6 p6 => hQ6 _ _ ?_))
    replace f6 : Fr [2, 3, 4, 5, 6, 7, 8, 9, 10, 11, 12, 13, 14] [] σ5 (xbk [2, 3, 4, 5, 6, 7, 8, 9, 10, 11, 12, 13, 14, 15, 16, 17, 18, 19, 20, 21, 22, 23, 24, 25, 26, 27] σ5 ς6) := f6.bk (by decide) (by decide)
    replace p6 : (∀ i : Nat, (i : Int) < 78 → (xbk [2, 3, 4, 5, 6, 7, 8, 9, 10, 11, 12, 13, 14, 15, 16, 17, 18, 19, 20, 21, 22, 23, 24, 25, 26, 27] σ5 ς6) 4 i = σ5 17 i) ∧ (∀ i : Nat, (i : Int) < 52 → (xbk [2, 3, 4, 5, 6, 7, 8, 9, 10, 11, 12, 13, 14, 15, 16, 17, 18, 19, 20, 21, 22, 23, 24, 25, 26, 27] σ5 ς6) 6 i = σ5 19 i) ∧ (∀ i : Nat, (i : Int) < 78 → (xbk [2, 3, 4, 5, 6, 7, 8, 9, 10, 11, 12, 13, 14, 15, 16, 17, 18, 19, 20, 21, 22, 23, 24, 25, 26, 27] σ5 ς6) 12 i = σ5 25 i) ∧ ((xbk [2, 3, 4, 5, 6, 7, 8, 9, 10, 11, 12, 13, 14, 15, 16, 17, 18, 19, 20, 21, 22, 23, 24, 25, 26, 27] σ5 ς6) 2 0 = (σ5 15 0) ∧ (xbk [2, 3, 4, 5, 6, 7, 8, 9, 10, 11, 12, 13, 14, 15, 16, 17, 18, 19, 20, 21, 22, 23, 24, 25, 26, 27] σ5 ς6) 2 1 = (σ5 15 1) ∧ (xbk [2, 3, 4, 5, 6, 7, 8, 9, 10, 11, 12, 13, 14, 15, 16, 17, 18, 19, 20, 21, 22, 23, 24, 25, 26, 27] σ5 ς6) 2 2 = (σ5 15 2) ∧ (xbk [2, 3, 4, 5, 6, 7, 8, 9, 10, 11, 12, 13, 14, 15, 16, 17, 18, 19, 20, 21, 22, 23, 24, 25, 26, 27] σ5 ς6) 2 8 = (σ5 15 8) ∧ (xbk [2, 3, 4, 5, 6, 7, 8, 9, 10, 11, 12, 13, 14, 15, 16, 17, 18, 19, 20, 21, 22, 23, 24, 25, 26, 27] σ5 ς6) 2 9 = (σ5 15 9)) ∧ (xbk [2, 3, 4, 5, 6, 7, 8, 9, 10, 11, 12, 13, 14, 15, 16, 17, 18, 19, 20, 21, 22, 23, 24, 25, 26, 27] σ5 ς6) 11 2 = (σ5 24 2) := p6
    generalize xbk [2, 3, 4, 5, 6, 7, 8, 9, 10, 11, 12, 13, 14, 15, 16, 17, 18, 19, 20, 21, 22, 23, 24, 25, 26, 27] σ5 ς6 = σ6 at f6  p6 ⊢
    have hF := hF.tr f6 (by decide) (by decide)
    have hJ : JG (xsel [2, 3, 4, 5, 6, 7, 8, 9, 10, 11, 12, 13, 14] σ6) := by
      obtain ⟨c1, c2, c3, c4, c5⟩ := p6
      exact hJT.cp c1 c2 c3 c4 c5
    clear p6
    have kz1 : σ6 0 1 = 0 := (f6.2 1 (by decide)).trans kz1
    have k39 : σ6 39 1 = σ 39 1 := (congrFun (f6.1 39 (by decide) (by decide)) 1).trans k39
    refine xMVf (sh := shB1) (ci := 7) (τ := [28, 29]) (E := xT kX7_clear) (t := 28) (r := []) (σ := σ6) rfl rfl (fun Q7 hQ7 => sX7_clear (σ := xsel [28, 29] σ6)   (fun ς7 f7 p7 => hQ7 _ _ ?_))
    replace f7 : Fr [28] [] σ6 (xbk [28, 29] σ6 ς7) := f7.bk (by decide) (by decide)
    replace p7 : (xbk [28, 29] σ6 ς7) 28 1 = 0 := p7
    generalize xbk [28, 29] σ6 ς7 = σ7 at f7  p7 ⊢
    have hF := hF.tr f7 (by decide) (by decide)
    have hJ := hJ.fr2 f7 (by decide)
    have k39 : σ7 39 1 = σ 39 1 := (congrFun (f7.1 39 (by decide) (by decide)) 1).trans k39
    have kz1 : σ7 0 1 = 0 := (f7.2 1 (by decide)).trans kz1
    have kt1 : σ7 28 1 = 0 := p7
    refine xMVf (sh := shB1) (ci := 5) (τ := [39, 40]) (E := xT kX5_clear) (t := 39) (r := []) (σ := σ7) rfl rfl (fun Q8 hQ8 => sX5_clear (σ := xsel [39, 40] σ7)   (fun ς8 f8 p8 => hQ8 _ _ ?_))
    have kq8_1 : (xbk [39, 40] σ7 ς8) 39 1 = σ7 39 1 := f8.2 1 (by decide)
    replace f8 : Fr [39] [] σ7 (xbk [39, 40] σ7 ς8) := f8.bk (by decide) (by decide)
    replace p8 : (xbk [39, 40] σ7 ς8) 39 2 = 0 := p8
    generalize xbk [39, 40] σ7 ς8 = σ8 at f8 kq8_1 p8 ⊢
    have hF := hF.tr f8 (by decide) (by decide)
    have hJ := hJ.fr2 f8 (by decide)
    have kz1 : σ8 0 1 = 0 := (f8.2 1 (by decide)).trans kz1
    have kt1 : σ8 28 1 = 0 := (congrFun (f8.1 28 (by decide) (by decide)) 1).trans kt1
    intro v9 e9 l9 h9
    have e9 : v9 = σ8 32 3 := e9
    refine And.intro rfl ?_
    exact hQ _ _ hF ⟨hJ, (show σ8 0 1 = 0 from by omega), (show 0 ≤ σ8 28 1 ∧ σ8 28 1 ≤ 40 from by omega), (show 0 ≤ σ8 39 2 ∧ σ8 39 2 ≤ 8 from by omega), (show 0 ≤ σ8 39 1 ∧ σ8 39 1 ≤ 7 from by omega)⟩
  · intro v10 e10 l10 h10
    have e10 : v10 = σ 30 10 := e10
    intro z11 t11 e11 l11 h11
    try have w11 : t11 = 0 := by omega
    refine And.intro rfl ?_
    exact hQ _ _ hF ⟨(show JG (xsel [2, 3, 4, 5, 6, 7, 8, 9, 10, 11, 12, 13, 14] (xput (xput σ 0 1 0) 0 2 v2)) from hp0), (show 0 = 0 from by omega), (show 0 ≤ σ 28 1 ∧ σ 28 1 ≤ 40 from by omega), (show 0 ≤ σ 39 2 ∧ σ 39 2 ≤ 8 from by omega), (show 0 ≤ σ 39 1 ∧ σ 39 1 ≤ 7 from by omega)⟩
set_option maxHeartbeats 4000000 in
set_option maxRecDepth 100000 in
theorem pX10_sentence {σ : xS} {fine : Int} {Q : Option xV → xS → Prop} {Z : Nat → List xV → xS → Prop} (hp0 : 0 ≤ σ 37 1 ∧ σ 37 1 ≤ 40) (hp1 : 0 ≤ σ 28 1 ∧ σ 28 1 ≤ 40) (hQ : ∀ r : Int, ∀ σ' : xS, Fr [28, 29] [1, 2] σ σ' → (σ' 0 1 = 0 ∧ (0 ≤ σ' 28 1 ∧ σ' 28 1 ≤ 40)) → Q (some (xvi r)) σ') : xTE kX10_sentence_b Q Z 20 [xvr 0, xvi fine] σ := by
  intro X hX hZZ
  have hF : Fr [28, 29] [1, 2] σ σ := Fr.rf
  refine hX 400 20 _ _ ?_
  have hF := hF.p (j := 1) (v := 0) (by decide)
  intro v2 e2 l2 h2
  have e2 : v2 = σ 30 9 := e2
  have hF := hF.p (j := 2) (v := v2) (by decide)
  refine And.intro (fun c4 => ?_) (fun c4 => ?_)
  · refine xMVf (sh := shB1) (ci := 7) (τ := [28, 29, 37, 38]) (E := xT kX7_copyFrom) (t := 28) (r := [xvr 37]) (σ := (xput (xput σ 0 1 0) 0 2 v2)) rfl rfl (fun Q5 hQ5 => sX7_copyFrom (σ := xsel [28, 29, 37, 38] (xput (xput σ 0 1 0) 0 2 v2))   (fun ς5 f5 p5 => hQ5 _ _ ?_))
    replace f5 : Fr [28, 29] [] (xput (xput σ 0 1 0) 0 2 v2) (xbk [28, 29, 37, 38] (xput (xput σ 0 1 0) 0 2 v2) ς5) := f5.bk (by decide) (by decide)
    replace p5 : (xbk [28, 29, 37, 38] (xput (xput σ 0 1 0) 0 2 v2) ς5) 28 1 = (σ 37 1) := p5
    generalize xbk [28, 29, 37, 38] (xput (xput σ 0 1 0) 0 2 v2) ς5 = σ5 at f5  p5 ⊢
    have hF := hF.tr f5 (by decide) (by decide)
    have kz1 : σ5 0 1 = 0 := f5.2 1 (by decide)
    intro v6 e6 l6 h6
    have e6 : v6 = σ5 36 2 := e6
    refine And.intro rfl ?_
    exact hQ _ _ hF ⟨(show σ5 0 1 = 0 from by omega), (show 0 ≤ σ5 28 1 ∧ σ5 28 1 ≤ 40 from by omega)⟩
  · intro v7 e7 l7 h7
    have e7 : v7 = σ 30 10 := e7
    intro z8 t8 e8 l8 h8
    try have w8 : t8 = 0 := by omega
    refine And.intro rfl ?_
    exact hQ _ _ hF ⟨(show 0 = 0 from by omega), (show 0 ≤ σ 28 1 ∧ σ 28 1 ≤ 40 from by omega)⟩
