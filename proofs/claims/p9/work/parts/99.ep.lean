set_option maxHeartbeats 4000000 in
set_option maxRecDepth 100000 in
theorem pX5_takeBack_a {w : Nat → Bool} {σ : xS} {Q : Option xV → xS → Prop} {Z : Nat → List xV → xS → Prop} (hp0 : (0 ≤ σ 39 1 ∧ σ 39 1 ≤ 7)) (hp1 : (0 ≤ σ 39 2 ∧ σ 39 2 ≤ 8)) (hQ : ∀ r : Int, ∀ σ' : xS, Fr [] [] σ σ' → (r = 0) → Q (some (xvi r)) σ')(hZ : ∀ last : Int, (0 ≤ last ∧ last ≤ 7) → 1 ≤ σ 39 2 → Z 26 [xvr 39, xvr 2, xvi last] σ) : xTE (kX5_takeBack_a w) Q Z 0 [xvr 39, xvr 2, xvu] σ := by
  intro X hX hZZ
  have hF : Fr [] [] σ σ := Fr.rf
  refine hX 400 0 _ _ ?_
  intro v1 e1 l1 h1
  have e1 : v1 = σ 39 1 := e1
  refine And.intro (fun c2 => ?_) (fun c2 => ?_)
  · refine And.intro (Nat.le_of_ble_eq_true rfl) ?_
    show xw _ _ _ _ _ _ _ _ _ _ [xvr 39, xvr 2, xvi 7] _ _
    intro v3 e3 l3 h3
    have e3 : v3 = σ 39 2 := e3
    refine And.intro (fun c4 => ?_) (fun c4 => ?_)
    · refine hX 400 35 _ _ ?_
      refine And.intro rfl ?_
      refine And.intro (by omega) ?_
      exact hQ _ _ hF (show 0 = 0 from by first | trivial | omega)
    · exact hZZ _ _ _ (hZ _ (by omega) (by omega))
  · intro v5 e5 l5 h5
    have e5 : v5 = σ 39 1 := e5
    intro z6 t6 e6 l6 h6
    try have w6 : t6 = 0 := by omega
    refine And.intro (Nat.le_of_ble_eq_true rfl) ?_
    show xw _ _ _ _ _ _ _ _ _ _ [xvr 39, xvr 2, xvi z6] _ _
    intro v7 e7 l7 h7
    have e7 : v7 = σ 39 2 := e7
    refine And.intro (fun c8 => ?_) (fun c8 => ?_)
    · refine hX 400 35 _ _ ?_
      refine And.intro rfl ?_
      refine And.intro (by omega) ?_
      exact hQ _ _ hF (show 0 = 0 from by first | trivial | omega)
    · exact hZZ _ _ _ (hZ _ (by omega) (by omega))
set_option maxHeartbeats 4000000 in
set_option maxRecDepth 100000 in
theorem pX5_takeBack_c {w : Nat → Bool} {σ : xS} {last : Int} {Q : Option xV → xS → Prop} {Z : Nat → List xV → xS → Prop} (hQ : ∀ r : Int, ∀ σ' : xS, Fr [] [] σ σ' → (r = 0) → Q (some (xvi r)) σ') : xTE (kX5_takeBack_c w) Q Z 35 [xvr 39, xvr 2, xvi last] σ := by
  intro X hX hZZ
  have hF : Fr [] [] σ σ := Fr.rf
  refine hX 400 35 _ _ ?_
  refine And.intro rfl ?_
  refine And.intro (by omega) ?_
  exact hQ _ _ hF (show 0 = 0 from by first | trivial | omega)
set_option maxHeartbeats 4000000 in
set_option maxRecDepth 100000 in
theorem pX5_takeBack_d {w : Nat → Bool} {σ : xS} {last : Int} {Q : Option xV → xS → Prop} {Z : Nat → List xV → xS → Prop} (hp0 : 0 ≤ last ∧ last ≤ 7) (hp1 : 1 ≤ σ 39 2 ∧ σ 39 2 ≤ 8) (hQ : ∀ r : Int, ∀ σ' : xS, Fr [39] [] σ σ' → (r = 1 ∧ (0 ≤ σ' 39 1 ∧ σ' 39 1 ≤ 7) ∧ (0 ≤ σ' 39 2 ∧ σ' 39 2 ≤ 8)) → Q (some (xvi r)) σ') : xTE (kX5_takeBack_d w) Q Z 47 [xvr 39, xvr 2, xvi last] σ := by
  intro X hX hZZ
  have hF : Fr [39] [] σ σ := Fr.rf
  refine hX 400 47 _ _ ?_
  have hF := hF.pt (t := 39) (j := 1) (v := last) (by decide) (by decide)
  intro v2 e2 l2 h2
  have e2 : v2 = σ 39 2 := e2
  intro z3 t3 e3 l3 h3
  try have w3 : t3 = 0 := by omega
  have hF := hF.pt (t := 39) (j := 2) (v := z3) (by decide) (by decide)
  refine And.intro rfl ?_
  refine And.intro (by omega) ?_
  exact hQ _ _ hF (show 1 = 1 ∧ (0 ≤ (last) ∧ (last) ≤ 7) ∧ (0 ≤ (z3) ∧ (z3) ≤ 8) from by first | trivial | omega)
set_option maxHeartbeats 4000000 in
set_option maxRecDepth 100000 in
theorem pX10_image_a {w : Nat → Bool} {σ : xS} {k : Int} {Q : Option xV → xS → Prop} {Z : Nat → List xV → xS → Prop} (hQ : ∀ r : Int, ∀ σ' : xS, Fr [] [] σ σ' → (r = 0 ∧ (k < 0 ∨ 2 ≤ k)) → Q (some (xvi r)) σ')(hZ : (0 ≤ k ∧ k < 2) → Z 11 [xvr 0, xvi k] σ) : xTE (kX10_image_a w) Q Z 0 [xvr 0, xvi k] σ := by
  intro X hX hZZ
  have hF : Fr [] [] σ σ := Fr.rf
  refine hX 400 0 _ _ ?_
  have lp_9 : ∀ (_ : Unit), (k < 0 ∨ 2 ≤ k) → X 9 [xvr 0, xvi k] σ := by
    intro _ hv_9
    refine hX 400 9 _ _ ?_
    refine And.intro rfl ?_
    refine And.intro (by omega) ?_
    exact hQ _ _ hF (show 0 = 0 ∧ (k < 0 ∨ 2 ≤ k) from by first | trivial | omega)
  refine And.intro (fun c2 => ?_) (fun c2 => ?_)
  · exact lp_9 () (show k < 0 ∨ 2 ≤ k from by first | trivial | omega | (refine ⟨by assumption, ?_⟩; omega) | (refine ⟨?_, ?_⟩ <;> omega))
  · refine And.intro (fun c3 => ?_) (fun c3 => ?_)
    · exact hZZ _ _ _ (hZ (by omega))
    · exact lp_9 () (show k < 0 ∨ 2 ≤ k from by first | trivial | omega | (refine ⟨by assumption, ?_⟩; omega) | (refine ⟨?_, ?_⟩ <;> omega))
set_option maxHeartbeats 4000000 in
set_option maxRecDepth 100000 in
theorem pX10_image_d {w : Nat → Bool} {σ : xS} {k : Int} {Q : Option xV → xS → Prop} {Z : Nat → List xV → xS → Prop} (hQ : ∀ r : Int, ∀ σ' : xS, Fr [] [] σ σ' → (r = 1) → Q (some (xvi r)) σ') : xTE (kX10_image_d w) Q Z 81 [xvr 0, xvi k] σ := by
  intro X hX hZZ
  have hF : Fr [] [] σ σ := Fr.rf
  refine hX 400 81 _ _ ?_
  refine And.intro rfl ?_
  refine And.intro (by omega) ?_
  exact hQ _ _ hF (show 1 = 1 from by first | trivial | omega)
set_option maxHeartbeats 4000000 in
set_option maxRecDepth 100000 in
theorem pX10_restore_a {w : Nat → Bool} {σ : xS} {k : Int} {Q : Option xV → xS → Prop} {Z : Nat → List xV → xS → Prop} (hQ : ∀ r : Int, ∀ σ' : xS, Fr [] [] σ σ' → (r = 0 ∧ (k < 0 ∨ 2 ≤ k)) → Q (some (xvi r)) σ')(hZ : (0 ≤ k ∧ k < 2) → Z 9 [xvr 0, xvi k] σ) : xTE (kX10_restore_a w) Q Z 0 [xvr 0, xvi k] σ := by
  intro X hX hZZ
  have hF : Fr [] [] σ σ := Fr.rf
  refine hX 400 0 _ _ ?_
  have lp_27 : ∀ (_ : Unit), (k < 0 ∨ 2 ≤ k) → X 27 [xvr 0, xvi k] σ := by
    intro _ hv_27
    refine hX 400 27 _ _ ?_
    refine And.intro rfl ?_
    refine And.intro (by omega) ?_
    exact hQ _ _ hF (show 0 = 0 ∧ (k < 0 ∨ 2 ≤ k) from by first | trivial | omega)
  refine And.intro (fun c2 => ?_) (fun c2 => ?_)
  · exact lp_27 () (show k < 0 ∨ 2 ≤ k from by first | trivial | omega | (refine ⟨by assumption, ?_⟩; omega) | (refine ⟨?_, ?_⟩ <;> omega))
  · refine And.intro (fun c3 => ?_) (fun c3 => ?_)
    · exact lp_27 () (show k < 0 ∨ 2 ≤ k from by first | trivial | omega | (refine ⟨by assumption, ?_⟩; omega) | (refine ⟨?_, ?_⟩ <;> omega))
    · exact hZZ _ _ _ (hZ (by omega))
set_option maxHeartbeats 4000000 in
set_option maxRecDepth 100000 in
theorem pX10_restore_c {w : Nat → Bool} {σ : xS} {k : Int} {Q : Option xV → xS → Prop} {Z : Nat → List xV → xS → Prop} (hQ : ∀ r : Int, ∀ σ' : xS, Fr [] [] σ σ' → (r = 0) → Q (some (xvi r)) σ') : xTE (kX10_restore_c w) Q Z 27 [xvr 0, xvi k] σ := by
  intro X hX hZZ
  have hF : Fr [] [] σ σ := Fr.rf
  refine hX 400 27 _ _ ?_
  refine And.intro rfl ?_
  refine And.intro (by omega) ?_
  exact hQ _ _ hF (show 0 = 0 from by first | trivial | omega)
set_option maxHeartbeats 4000000 in
set_option maxRecDepth 100000 in
theorem pX10_restore_d {w : Nat → Bool} {σ : xS} {k : Int} {Q : Option xV → xS → Prop} {Z : Nat → List xV → xS → Prop} (hp0 : (0 ≤ σ 39 1 ∧ σ 39 1 ≤ 7)) (hQ : ∀ r : Int, ∀ σ' : xS, Fr [39] [] σ σ' → (r = 1 ∧ (0 ≤ σ' 39 1 ∧ σ' 39 1 ≤ 7) ∧ σ' 39 2 = 0) → Q (some (xvi r)) σ') : xTE (kX10_restore_d w) Q Z 55 [xvr 0, xvi k] σ := by
  intro X hX hZZ
  have hF : Fr [39] [] σ σ := Fr.rf
  refine hX 400 55 _ _ ?_
  refine xMVf (sh := (shW wlVF0 w)) (ci := 5) (τ := [39, 40]) (E := xT kX5_clear) (t := 39) (r := []) (σ := σ) rfl rfl (fun Q1 hQ1 => sX5_clear (σ := xsel [39, 40] σ)   (fun ς1 f1 p1 => hQ1 _ _ ?_))
  have kq1_1 : (xbk [39, 40] σ ς1) 39 1 = σ 39 1 := f1.2 1 (by decide)
  replace f1 : Fr [39] [] σ (xbk [39, 40] σ ς1) := f1.bk (by decide) (by decide)
  replace p1 : (xbk [39, 40] σ ς1) 39 2 = 0 := p1
  generalize xbk [39, 40] σ ς1 = σ1 at f1 kq1_1 p1 ⊢
  have hF := hF.tr f1 (by decide) (by decide)
  refine And.intro rfl ?_
  refine And.intro (by omega) ?_
  exact hQ _ _ hF (show 1 = 1 ∧ (0 ≤ (σ1 39 1) ∧ (σ1 39 1) ≤ 7) ∧ (σ1 39 2) = 0 from by first | trivial | omega)
set_option maxHeartbeats 4000000 in
set_option maxRecDepth 100000 in
theorem pX10_undo_b {w : Nat → Bool} {σ : xS} {b : Int} {Q : Option xV → xS → Prop} {Z : Nat → List xV → xS → Prop} (hQ : ∀ r : Int, ∀ σ' : xS, Fr [] [] σ σ' → Q (some (xvi r)) σ') : xTS (kX10_undo_b w) Q Z 11 [xvr 0] [xvi b] σ := by
  intro X hX hZZ
  have hF : Fr [] [] σ σ := Fr.rf
  refine ⟨400, ?_⟩
  show xw _ _ _ _ _ _ _ _ _ _ [xvr 0] [xvi b] _
  refine And.intro (fun c1 => ?_) (fun c1 => ?_)
  · refine And.intro rfl ?_
    exact hQ _ _ hF
  · intro v2 e2 l2 h2
    have e2 : v2 = σ 39 2 := e2
    refine And.intro rfl ?_
    exact hQ _ _ hF
set_option maxHeartbeats 4000000 in
set_option maxRecDepth 100000 in
theorem pX10_whom_a {w : Nat → Bool} {σ : xS} {o : Int} {Q : Option xV → xS → Prop} {Z : Nat → List xV → xS → Prop} (hp0 : JG (xsel [2, 3, 4, 5, 6, 7, 8, 9, 10, 11, 12, 13, 14] σ)) (hQ : ∀ r : Int, ∀ σ' : xS, Fr [] [] σ σ' → Q (some (xvi r)) σ')(hZ : (0 ≤ o ∧ o ≤ 5) → Z 36 [xvr 0, xvi o, xvu] σ) : xTE (kX10_whom_a w) Q Z 0 [xvr 0, xvi o, xvu] σ := by
  intro X hX hZZ
  have hF : Fr [] [] σ σ := Fr.rf
  refine hX 400 0 _ _ ?_
  have hb0 : 0 ≤ σ 2 0 ∧ σ 2 0 ≤ 13 := hp0.1.1.1
  have hb1 : 0 ≤ σ 2 1 ∧ σ 2 1 ≤ 6 := hp0.1.1.2.1
  have hb8 : 0 ≤ σ 2 8 ∧ σ 2 8 ≤ σ 2 9 ∧ σ 2 9 ≤ 52 := hp0.1.1.2.2.1
  have hb9 : 0 ≤ σ 11 2 ∧ σ 11 2 ≤ 52 := hp0.1.2.2.2
  have lp_34 : ∀ (_ : Unit), (True) → X 34 [xvr 0, xvi o, xvu] σ := by
    intro _ hv_34
    refine hX 400 34 _ _ ?_
    refine And.intro rfl ?_
    exact hQ _ _ hF
  refine xMVp (sh := (shW wlVF0 w)) (ci := 2) (τ := [2, 3, 4, 5, 6, 7, 8, 9, 10, 11, 12, 13, 14]) (E := xT kX2_hasPerson) (t := 2) (r := [xvi o]) (σ := σ) rfl rfl xbk_sel (fun Q2 hQ2 => sX2_hasPerson (σ := xsel [2, 3, 4, 5, 6, 7, 8, 9, 10, 11, 12, 13, 14] σ) (p := o)  (fun r2 p2 => hQ2 _ ?_))
  have p2 : (r2 = 1 ∧ 0 ≤ o ∧ o < (σ 2 1)) ∨ (r2 = 0 ∧ (o < 0 ∨ (σ 2 1) ≤ o)) := p2
  refine And.intro (fun c3 => ?_) (fun c3 => ?_)
  · replace p2 : (o < 0 ∨ (σ 2 1) ≤ o) := by
      rcases p2 with q | q
      · exact absurd q.1 (by omega)
      · exact q.2
    exact lp_34 () (show True from by first | trivial | omega | (refine ⟨by assumption, ?_⟩; omega) | (refine ⟨?_, ?_⟩ <;> omega))
  · replace p2 : 0 ≤ o ∧ o < (σ 2 1) := by
      rcases p2 with q | q
      · exact q.2
      · exact absurd q.1 (by omega)
    refine And.intro (rfl) (And.intro (⟨by omega, by omega⟩) ?_)
    intro v4 e4 l4 h4
    have e4 : v4 = σ 5 o.toNat := e4
    refine And.intro (fun c5 => ?_) (fun c5 => ?_)
    · exact lp_34 () (show True from by first | trivial | omega | (refine ⟨by assumption, ?_⟩; omega) | (refine ⟨?_, ?_⟩ <;> omega))
    · intro v6 e6 l6 h6
      have e6 : v6 = σ 2 1 := e6
      refine And.intro (fun c7 => ?_) (fun c7 => ?_)
      · exact hZZ _ _ _ (hZ (by omega))
      · exact lp_34 () (show True from by first | trivial | omega | (refine ⟨by assumption, ?_⟩; omega) | (refine ⟨?_, ?_⟩ <;> omega))
set_option maxHeartbeats 4000000 in
set_option maxRecDepth 100000 in
theorem pX10_whom_b {w : Nat → Bool} {σ : xS} {o : Int} {Q : Option xV → xS → Prop} {Z : Nat → List xV → xS → Prop} (hp0 : JG (xsel [2, 3, 4, 5, 6, 7, 8, 9, 10, 11, 12, 13, 14] σ)) (hp1 : 0 ≤ o ∧ o ≤ 5) (hQ : ∀ r : Int, ∀ σ' : xS, Fr [181, 182, 183, 184, 185, 186, 187, 188] [] σ σ' → Q (some (xvi r)) σ') : xTE (kX10_whom_b (wOn w 13)) Q Z 41 [xvr 0, xvi o, xvr 181] σ := by
  intro X hX hZZ
  have hF : Fr [181, 182, 183, 184, 185, 186, 187, 188] [] σ σ := Fr.rf
  refine hX 400 41 _ _ ?_
  have hb0 : 0 ≤ σ 2 0 ∧ σ 2 0 ≤ 13 := hp0.1.1.1
  have hb1 : 0 ≤ σ 2 1 ∧ σ 2 1 ≤ 6 := hp0.1.1.2.1
  have hb8 : 0 ≤ σ 2 8 ∧ σ 2 8 ≤ σ 2 9 ∧ σ 2 9 ≤ 52 := hp0.1.1.2.2.1
  have hb9 : 0 ≤ σ 11 2 ∧ σ 11 2 ≤ 52 := hp0.1.2.2.2
  have hC := hp0.1
  refine xMVf (sh := (shW wlVF0 (wOn w 13))) (ci := 4) (τ := [181, 182, 183, 184, 185, 186, 187, 188, 2, 3, 4, 5, 6, 7, 8, 9, 10, 11, 12, 13, 14]) (E := xT kX4_look) (t := 181) (r := [xvr 2, xvi o]) (σ := σ) rfl rfl (fun Q1 hQ1 => sX4_look (σ := xsel [181, 182, 183, 184, 185, 186, 187, 188, 2, 3, 4, 5, 6, 7, 8, 9, 10, 11, 12, 13, 14] σ) (o := o) (show CG (xsel [8, 9, 10, 11, 12, 13, 14, 15, 16, 17, 18, 19, 20] (xsel [181, 182, 183, 184, 185, 186, 187, 188, 2, 3, 4, 5, 6, 7, 8, 9, 10, 11, 12, 13, 14] σ)) from hC) (show 0 ≤ o ∧ o ≤ 5 from by omega) (fun r1 ς1 f1 p1 => hQ1 _ _ ?_))
  replace f1 : Fr [181, 182, 183, 184, 185, 186, 187, 188] [] σ (xbk [181, 182, 183, 184, 185, 186, 187, 188, 2, 3, 4, 5, 6, 7, 8, 9, 10, 11, 12, 13, 14] σ ς1) := f1.bk (by decide) (by decide)
  replace p1 : (r1 = 1 ∧ (0 ≤ (xbk [181, 182, 183, 184, 185, 186, 187, 188, 2, 3, 4, 5, 6, 7, 8, 9, 10, 11, 12, 13, 14] σ ς1) 181 2 ∧ (xbk [181, 182, 183, 184, 185, 186, 187, 188, 2, 3, 4, 5, 6, 7, 8, 9, 10, 11, 12, 13, 14] σ ς1) 181 2 ≤ 12) ∧ (0 ≤ (xbk [181, 182, 183, 184, 185, 186, 187, 188, 2, 3, 4, 5, 6, 7, 8, 9, 10, 11, 12, 13, 14] σ ς1) 181 5 ∧ (xbk [181, 182, 183, 184, 185, 186, 187, 188, 2, 3, 4, 5, 6, 7, 8, 9, 10, 11, 12, 13, 14] σ ς1) 181 5 ≤ 6) ∧ (∀ i : Nat, (i : Int) < (xbk [181, 182, 183, 184, 185, 186, 187, 188, 2, 3, 4, 5, 6, 7, 8, 9, 10, 11, 12, 13, 14] σ ς1) 181 5 → 1 ≤ (xbk [181, 182, 183, 184, 185, 186, 187, 188, 2, 3, 4, 5, 6, 7, 8, 9, 10, 11, 12, 13, 14] σ ς1) 185 i ∧ (xbk [181, 182, 183, 184, 185, 186, 187, 188, 2, 3, 4, 5, 6, 7, 8, 9, 10, 11, 12, 13, 14] σ ς1) 185 i ≤ 4)) ∨ (r1 = 0 ∧ (0 : Int) ≤ 0) := p1
  generalize xbk [181, 182, 183, 184, 185, 186, 187, 188, 2, 3, 4, 5, 6, 7, 8, 9, 10, 11, 12, 13, 14] σ ς1 = σ1 at f1  p1 ⊢
  have hF := hF.tr f1 (by decide) (by decide)
  have hC := (JG.fr2 hp0 hF (by decide)).1
  refine And.intro (fun c2 => ?_) (fun c2 => ?_)
  · refine And.intro rfl ?_
    exact hQ _ _ hF
  · refine xMVf (sh := (shW wlVF0 (wOn w 13))) (ci := 4) (τ := [181, 182, 183, 184, 185, 186, 187, 188, 2, 3, 4, 5, 6, 7, 8, 9, 10, 11, 12, 13, 14]) (E := xT kX4_likeliest) (t := 181) (r := [xvr 2, xvi o]) (σ := σ1) rfl rfl (fun Q3 hQ3 => sX4_likeliest (σ := xsel [181, 182, 183, 184, 185, 186, 187, 188, 2, 3, 4, 5, 6, 7, 8, 9, 10, 11, 12, 13, 14] σ1) (o := o) (show CG (xsel [8, 9, 10, 11, 12, 13, 14, 15, 16, 17, 18, 19, 20] (xsel [181, 182, 183, 184, 185, 186, 187, 188, 2, 3, 4, 5, 6, 7, 8, 9, 10, 11, 12, 13, 14] σ1)) from hC) (show 0 ≤ o ∧ o ≤ 5 from by omega) (show 0 ≤ (σ1 181 2) ∧ (σ1 181 2) ≤ 12 from by omega) (show 0 ≤ (σ1 181 5) ∧ (σ1 181 5) ≤ 6 from by omega) (show ∀ i : Nat, (i : Int) < (σ1 181 5) → 1 ≤ σ1 185 i ∧ σ1 185 i ≤ 4 from p1.elim (fun u => u.2.2.2) (fun u => absurd u.1 (by omega))) (fun r3 ς3 f3 => hQ3 _ _ ?_))
    replace f3 : Fr [181, 186, 187, 188] [] σ1 (xbk [181, 182, 183, 184, 185, 186, 187, 188, 2, 3, 4, 5, 6, 7, 8, 9, 10, 11, 12, 13, 14] σ1 ς3) := f3.bk (by decide) (by decide)
    generalize xbk [181, 182, 183, 184, 185, 186, 187, 188, 2, 3, 4, 5, 6, 7, 8, 9, 10, 11, 12, 13, 14] σ1 ς3 = σ3 at f3  ⊢
    have hF := hF.tr f3 (by decide) (by decide)
    refine And.intro rfl ?_
    exact hQ _ _ hF
set_option maxHeartbeats 4000000 in
set_option maxRecDepth 100000 in
theorem pX10_open_a {w : Nat → Bool} {σ : xS} {Q : Option xV → xS → Prop} {Z : Nat → List xV → xS → Prop} (hp0 : JG (xsel [2, 3, 4, 5, 6, 7, 8, 9, 10, 11, 12, 13, 14] σ)) (hQ : ∀ r : Int, ∀ σ' : xS, Fr [] [] σ σ' → Q (some (xvi r)) σ')(hZ : σ 2 0 ≤ 3 → Z 7 [xvr 0] σ) : xTE (kX10_open_a w) Q Z 0 [xvr 0] σ := by
  intro X hX hZZ
  have hF : Fr [] [] σ σ := Fr.rf
  refine hX 400 0 _ _ ?_
  have hb0 : 0 ≤ σ 2 0 ∧ σ 2 0 ≤ 13 := hp0.1.1.1
  have hb1 : 0 ≤ σ 2 1 ∧ σ 2 1 ≤ 6 := hp0.1.1.2.1
  have hb8 : 0 ≤ σ 2 8 ∧ σ 2 8 ≤ σ 2 9 ∧ σ 2 9 ≤ 52 := hp0.1.1.2.2.1
  have hb9 : 0 ≤ σ 11 2 ∧ σ 11 2 ≤ 52 := hp0.1.2.2.2
  refine xMVp (sh := (shW wlVF0 w)) (ci := 10) (τ := [0, 1, 2, 3, 4, 5, 6, 7, 8, 9, 10, 11, 12, 13, 14, 15, 16, 17, 18, 19, 20, 21, 22, 23, 24, 25, 26, 27, 28, 29, 30, 31, 32, 33, 34, 35, 36, 37, 38, 39, 40, 41, 42, 43, 44, 45, 46]) (E := xT kX10_isOpen) (t := 0) (r := []) (σ := σ) rfl rfl xbk_sel (fun Q1 hQ1 => sX10_isOpen (σ := xsel [0, 1, 2, 3, 4, 5, 6, 7, 8, 9, 10, 11, 12, 13, 14, 15, 16, 17, 18, 19, 20, 21, 22, 23, 24, 25, 26, 27, 28, 29, 30, 31, 32, 33, 34, 35, 36, 37, 38, 39, 40, 41, 42, 43, 44, 45, 46] σ)  (show JG (xsel [2, 3, 4, 5, 6, 7, 8, 9, 10, 11, 12, 13, 14] (xsel [0, 1, 2, 3, 4, 5, 6, 7, 8, 9, 10, 11, 12, 13, 14, 15, 16, 17, 18, 19, 20, 21, 22, 23, 24, 25, 26, 27, 28, 29, 30, 31, 32, 33, 34, 35, 36, 37, 38, 39, 40, 41, 42, 43, 44, 45, 46] σ)) from by exact hp0) (fun r1 p1 => hQ1 _ ?_))
  have p1 : (r1 = 1 ∧ (σ 2 1) = 2 ∧ (σ 2 0) ≤ 3 ∧ (σ 2 9) - (σ 2 8) ≤ 4 ∧ (0 ≤ (σ 2 14) ∧ (σ 2 14) < 2)) ∨ (r1 = 0 ∧ (0 : Int) ≤ 0) := p1
  refine And.intro (fun c2 => ?_) (fun c2 => ?_)
  · replace p1 : (0 : Int) ≤ 0 := by
      rcases p1 with q | q
      · exact absurd q.1 (by omega)
      · exact q.2
    refine And.intro rfl ?_
    exact hQ _ _ hF
  · replace p1 : (σ 2 1) = 2 ∧ (σ 2 0) ≤ 3 ∧ (σ 2 9) - (σ 2 8) ≤ 4 ∧ (0 ≤ (σ 2 14) ∧ (σ 2 14) < 2) := by
      rcases p1 with q | q
      · exact q.2
      · exact absurd q.1 (by omega)
    exact hZZ _ _ _ (hZ (by omega))
set_option maxHeartbeats 4000000 in
set_option maxRecDepth 100000 in
theorem pX10_open_b {w : Nat → Bool} {σ : xS} {Q : Option xV → xS → Prop} {Z : Nat → List xV → xS → Prop} (hp0 : JG (xsel [2, 3, 4, 5, 6, 7, 8, 9, 10, 11, 12, 13, 14] σ)) (hp1 : σ 2 0 ≤ 3) (hQ : ∀ r : Int, ∀ σ' : xS, Fr [189, 190, 191, 192, 193] [] σ σ' → Q (some (xvi r)) σ') : xTS (kX10_open_b (wOn w 14)) Q Z 11 [xvr 0] [xvr 189] σ := by
  intro X hX hZZ
  have hF : Fr [189, 190, 191, 192, 193] [] σ σ := Fr.rf
  refine ⟨400, ?_⟩
  show xw _ _ _ _ _ _ _ _ _ _ [xvr 0] [xvr 189] _
  have hb0 : 0 ≤ σ 2 0 ∧ σ 2 0 ≤ 13 := hp0.1.1.1
  have hb1 : 0 ≤ σ 2 1 ∧ σ 2 1 ≤ 6 := hp0.1.1.2.1
  have hb8 : 0 ≤ σ 2 8 ∧ σ 2 8 ≤ σ 2 9 ∧ σ 2 9 ≤ 52 := hp0.1.1.2.2.1
  have hb9 : 0 ≤ σ 11 2 ∧ σ 11 2 ≤ 52 := hp0.1.2.2.2
  have hC := hp0.1
  have hck : ∀ i : Nat, (i : Int) < σ 2 9 → σ 6 i ≤ 2 := fun i hi => by have := hp0.2.2 i hi; have h2 : σ 6 i < σ 2 0 := this; omega
  have hag : σ 2 2 = 0 ∨ σ 2 2 = 1 := hp0.2.1
  refine xMVf (sh := (shW wlVF0 (wOn w 14))) (ci := 0) (τ := [189, 190, 191, 192, 193, 2, 3, 4, 5, 6, 7, 8, 9, 10, 11, 12, 13, 14]) (E := xT kX0_difference) (t := 189) (r := [xvr 2]) (σ := σ) rfl rfl (fun Q1 hQ1 => sX0_difference (σ := xsel [189, 190, 191, 192, 193, 2, 3, 4, 5, 6, 7, 8, 9, 10, 11, 12, 13, 14] σ)  (show CG (xsel [5, 6, 7, 8, 9, 10, 11, 12, 13, 14, 15, 16, 17] (xsel [189, 190, 191, 192, 193, 2, 3, 4, 5, 6, 7, 8, 9, 10, 11, 12, 13, 14] σ)) from hC) (show ∀ i : Nat, (i : Int) < (σ 2 9) → σ 6 i ≤ 2 from hck) (show (σ 2 2) = 0 ∨ (σ 2 2) = 1 from hag) (fun r1 ς1 f1 => hQ1 _ _ ?_))
  replace f1 : Fr [189, 190, 191, 192, 193] [] σ (xbk [189, 190, 191, 192, 193, 2, 3, 4, 5, 6, 7, 8, 9, 10, 11, 12, 13, 14] σ ς1) := f1.bk (by decide) (by decide)
  generalize xbk [189, 190, 191, 192, 193, 2, 3, 4, 5, 6, 7, 8, 9, 10, 11, 12, 13, 14] σ ς1 = σ1 at f1  ⊢
  have hF := hF.tr f1 (by decide) (by decide)
  refine And.intro rfl ?_
  exact hQ _ _ hF
set_option maxHeartbeats 4000000 in
set_option maxRecDepth 100000 in
theorem pX10_first_a {w : Nat → Bool} {σ : xS} {Q : Option xV → xS → Prop} {Z : Nat → List xV → xS → Prop} (hp0 : JG (xsel [2, 3, 4, 5, 6, 7, 8, 9, 10, 11, 12, 13, 14] σ)) (hQ : ∀ r : Int, ∀ σ' : xS, Fr [] [] σ σ' → Q (some (xvi r)) σ')(hZ : σ 2 0 ≤ 3 → Z 7 [xvr 0] σ) : xTE (kX10_first_a w) Q Z 0 [xvr 0] σ := by
  intro X hX hZZ
  have hF : Fr [] [] σ σ := Fr.rf
  refine hX 400 0 _ _ ?_
  have hb0 : 0 ≤ σ 2 0 ∧ σ 2 0 ≤ 13 := hp0.1.1.1
  have hb1 : 0 ≤ σ 2 1 ∧ σ 2 1 ≤ 6 := hp0.1.1.2.1
  have hb8 : 0 ≤ σ 2 8 ∧ σ 2 8 ≤ σ 2 9 ∧ σ 2 9 ≤ 52 := hp0.1.1.2.2.1
  have hb9 : 0 ≤ σ 11 2 ∧ σ 11 2 ≤ 52 := hp0.1.2.2.2
  refine xMVp (sh := (shW wlVF0 w)) (ci := 10) (τ := [0, 1, 2, 3, 4, 5, 6, 7, 8, 9, 10, 11, 12, 13, 14, 15, 16, 17, 18, 19, 20, 21, 22, 23, 24, 25, 26, 27, 28, 29, 30, 31, 32, 33, 34, 35, 36, 37, 38, 39, 40, 41, 42, 43, 44, 45, 46]) (E := xT kX10_isOpen) (t := 0) (r := []) (σ := σ) rfl rfl xbk_sel (fun Q1 hQ1 => sX10_isOpen (σ := xsel [0, 1, 2, 3, 4, 5, 6, 7, 8, 9, 10, 11, 12, 13, 14, 15, 16, 17, 18, 19, 20, 21, 22, 23, 24, 25, 26, 27, 28, 29, 30, 31, 32, 33, 34, 35, 36, 37, 38, 39, 40, 41, 42, 43, 44, 45, 46] σ)  (show JG (xsel [2, 3, 4, 5, 6, 7, 8, 9, 10, 11, 12, 13, 14] (xsel [0, 1, 2, 3, 4, 5, 6, 7, 8, 9, 10, 11, 12, 13, 14, 15, 16, 17, 18, 19, 20, 21, 22, 23, 24, 25, 26, 27, 28, 29, 30, 31, 32, 33, 34, 35, 36, 37, 38, 39, 40, 41, 42, 43, 44, 45, 46] σ)) from by exact hp0) (fun r1 p1 => hQ1 _ ?_))
  have p1 : (r1 = 1 ∧ (σ 2 1) = 2 ∧ (σ 2 0) ≤ 3 ∧ (σ 2 9) - (σ 2 8) ≤ 4 ∧ (0 ≤ (σ 2 14) ∧ (σ 2 14) < 2)) ∨ (r1 = 0 ∧ (0 : Int) ≤ 0) := p1
  refine And.intro (fun c2 => ?_) (fun c2 => ?_)
  · replace p1 : (0 : Int) ≤ 0 := by
      rcases p1 with q | q
      · exact absurd q.1 (by omega)
      · exact q.2
    refine And.intro rfl ?_
    exact hQ _ _ hF
  · replace p1 : (σ 2 1) = 2 ∧ (σ 2 0) ≤ 3 ∧ (σ 2 9) - (σ 2 8) ≤ 4 ∧ (0 ≤ (σ 2 14) ∧ (σ 2 14) < 2) := by
      rcases p1 with q | q
      · exact q.2
      · exact absurd q.1 (by omega)
    exact hZZ _ _ _ (hZ (by omega))
set_option maxHeartbeats 4000000 in
set_option maxRecDepth 100000 in
theorem pX10_first_b {w : Nat → Bool} {σ : xS} {Q : Option xV → xS → Prop} {Z : Nat → List xV → xS → Prop} (hp0 : JG (xsel [2, 3, 4, 5, 6, 7, 8, 9, 10, 11, 12, 13, 14] σ)) (hp1 : σ 2 0 ≤ 3) (hQ : ∀ r : Int, ∀ σ' : xS, Fr [189, 190, 191, 192, 193] [] σ σ' → Q (some (xvi r)) σ') : xTS (kX10_first_b (wOn w 14)) Q Z 11 [xvr 0] [xvr 189] σ := by
  intro X hX hZZ
  have hF : Fr [189, 190, 191, 192, 193] [] σ σ := Fr.rf
  refine ⟨400, ?_⟩
  show xw _ _ _ _ _ _ _ _ _ _ [xvr 0] [xvr 189] _
  have hb0 : 0 ≤ σ 2 0 ∧ σ 2 0 ≤ 13 := hp0.1.1.1
  have hb1 : 0 ≤ σ 2 1 ∧ σ 2 1 ≤ 6 := hp0.1.1.2.1
  have hb8 : 0 ≤ σ 2 8 ∧ σ 2 8 ≤ σ 2 9 ∧ σ 2 9 ≤ 52 := hp0.1.1.2.2.1
  have hb9 : 0 ≤ σ 11 2 ∧ σ 11 2 ≤ 52 := hp0.1.2.2.2
  have hC := hp0.1
  have hck : ∀ i : Nat, (i : Int) < σ 2 9 → σ 6 i ≤ 2 := fun i hi => by have := hp0.2.2 i hi; have h2 : σ 6 i < σ 2 0 := this; omega
  have hag : σ 2 2 = 0 ∨ σ 2 2 = 1 := hp0.2.1
  refine xMVf (sh := (shW wlVF0 (wOn w 14))) (ci := 0) (τ := [189, 190, 191, 192, 193, 2, 3, 4, 5, 6, 7, 8, 9, 10, 11, 12, 13, 14]) (E := xT kX0_bestKind) (t := 189) (r := [xvr 2]) (σ := σ) rfl rfl (fun Q1 hQ1 => sX0_bestKind (σ := xsel [189, 190, 191, 192, 193, 2, 3, 4, 5, 6, 7, 8, 9, 10, 11, 12, 13, 14] σ)  (show CG (xsel [5, 6, 7, 8, 9, 10, 11, 12, 13, 14, 15, 16, 17] (xsel [189, 190, 191, 192, 193, 2, 3, 4, 5, 6, 7, 8, 9, 10, 11, 12, 13, 14] σ)) from hC) (show ∀ i : Nat, (i : Int) < (σ 2 9) → σ 6 i ≤ 2 from hck) (show (σ 2 2) = 0 ∨ (σ 2 2) = 1 from hag) (fun r1 ς1 f1 => hQ1 _ _ ?_))
  replace f1 : Fr [189, 190, 191, 192, 193] [] σ (xbk [189, 190, 191, 192, 193, 2, 3, 4, 5, 6, 7, 8, 9, 10, 11, 12, 13, 14] σ ς1) := f1.bk (by decide) (by decide)
  generalize xbk [189, 190, 191, 192, 193, 2, 3, 4, 5, 6, 7, 8, 9, 10, 11, 12, 13, 14] σ ς1 = σ1 at f1  ⊢
  have hF := hF.tr f1 (by decide) (by decide)
  refine And.intro rfl ?_
  exact hQ _ _ hF
set_option maxHeartbeats 4000000 in
set_option maxRecDepth 100000 in
theorem pX10_odds_a {w : Nat → Bool} {σ : xS} {o q kind what : Int} {Q : Option xV → xS → Prop} {Z : Nat → List xV → xS → Prop} (hp0 : JG (xsel [2, 3, 4, 5, 6, 7, 8, 9, 10, 11, 12, 13, 14] σ)) (hT : Z 26 [xvr 0, xvi o, xvi q, xvi kind, xvi what, xvu] σ) (hZ : (0 ≤ o ∧ o ≤ 5) → (0 ≤ q ∧ q ≤ 5) → (0 ≤ kind ∧ kind ≤ 12) → Z 36 [xvr 0, xvi o, xvi q, xvi kind, xvi what, xvu] σ) : xTE (kX10_odds_a w) Q Z 0 [xvr 0, xvi o, xvi q, xvi kind, xvi what, xvu] σ := by
  intro X hX hZZ
  have hF : Fr [] [] σ σ := Fr.rf
  refine hX 400 0 _ _ ?_
  have hb0 : 0 ≤ σ 2 0 ∧ σ 2 0 ≤ 13 := hp0.1.1.1
  have hb1 : 0 ≤ σ 2 1 ∧ σ 2 1 ≤ 6 := hp0.1.1.2.1
  have hb8 : 0 ≤ σ 2 8 ∧ σ 2 8 ≤ σ 2 9 ∧ σ 2 9 ≤ 52 := hp0.1.1.2.2.1
  have hb9 : 0 ≤ σ 11 2 ∧ σ 11 2 ≤ 52 := hp0.1.2.2.2
  refine xMVp (sh := (shW wlVF0 w)) (ci := 10) (τ := [0, 1, 2, 3, 4, 5, 6, 7, 8, 9, 10, 11, 12, 13, 14, 15, 16, 17, 18, 19, 20, 21, 22, 23, 24, 25, 26, 27, 28, 29, 30, 31, 32, 33, 34, 35, 36, 37, 38, 39, 40, 41, 42, 43, 44, 45, 46]) (E := xT kX10_areSuch) (t := 0) (r := [xvi o, xvi q, xvi kind]) (σ := σ) rfl rfl xbk_sel (fun Q1 hQ1 => sX10_areSuch (σ := xsel [0, 1, 2, 3, 4, 5, 6, 7, 8, 9, 10, 11, 12, 13, 14, 15, 16, 17, 18, 19, 20, 21, 22, 23, 24, 25, 26, 27, 28, 29, 30, 31, 32, 33, 34, 35, 36, 37, 38, 39, 40, 41, 42, 43, 44, 45, 46] σ) (p := o) (q := q) (kind := kind) (show JG (xsel [2, 3, 4, 5, 6, 7, 8, 9, 10, 11, 12, 13, 14] (xsel [0, 1, 2, 3, 4, 5, 6, 7, 8, 9, 10, 11, 12, 13, 14, 15, 16, 17, 18, 19, 20, 21, 22, 23, 24, 25, 26, 27, 28, 29, 30, 31, 32, 33, 34, 35, 36, 37, 38, 39, 40, 41, 42, 43, 44, 45, 46] σ)) from by exact hp0) (fun r1 p1 => hQ1 _ ?_))
  have p1 : (r1 = 1 ∧ (0 ≤ o ∧ o < (σ 2 1)) ∧ (0 ≤ q ∧ q < (σ 2 1)) ∧ (0 ≤ kind ∧ kind < (σ 2 0))) ∨ (r1 = 0 ∧ (0 : Int) ≤ 0) := p1
  refine And.intro (fun c2 => ?_) (fun c2 => ?_)
  · replace p1 : (0 : Int) ≤ 0 := by
      rcases p1 with q | q
      · exact absurd q.1 (by omega)
      · exact q.2
    exact hZZ _ _ _ hT
  · replace p1 : (0 ≤ o ∧ o < (σ 2 1)) ∧ (0 ≤ q ∧ q < (σ 2 1)) ∧ (0 ≤ kind ∧ kind < (σ 2 0)) := by
      rcases p1 with q | q
      · exact q.2
      · exact absurd q.1 (by omega)
    refine And.intro (fun c3 => ?_) (fun c3 => ?_)
    · exact hZZ _ _ _ hT
    · refine And.intro (fun c4 => ?_) (fun c4 => ?_)
      · exact hZZ _ _ _ hT
      · refine And.intro (fun c5 => ?_) (fun c5 => ?_)
        · exact hZZ _ _ _ (hZ (by omega) (by omega) (by omega))
        · exact hZZ _ _ _ hT
set_option maxHeartbeats 4000000 in
set_option maxRecDepth 100000 in
theorem pX10_odds_b {w : Nat → Bool} {σ : xS} {o q kind what : Int} {Q : Option xV → xS → Prop} {Z : Nat → List xV → xS → Prop} (hp0 : JG (xsel [2, 3, 4, 5, 6, 7, 8, 9, 10, 11, 12, 13, 14] σ)) (hp1 : 0 ≤ o ∧ o ≤ 5) (hp2 : 0 ≤ q ∧ q ≤ 5) (hp3 : 0 ≤ kind ∧ kind ≤ 12) (hQ : ∀ r : Int, ∀ σ' : xS, Fr [181, 182, 183, 184, 185, 186, 187, 188] [] σ σ' → Q (some (xvl r)) σ')(hT : ∀ σ' : xS, Fr [181, 182, 183, 184, 185, 186, 187, 188] [] σ σ' → Z 55 [xvr 0, xvi o, xvi q, xvi kind, xvi what, xvr 181] σ') : xTE (kX10_odds_b (wOn w 13)) Q Z 42 [xvr 0, xvi o, xvi q, xvi kind, xvi what, xvr 181] σ := by
  intro X hX hZZ
  have hF : Fr [181, 182, 183, 184, 185, 186, 187, 188] [] σ σ := Fr.rf
  refine hX 400 42 _ _ ?_
  have hb0 : 0 ≤ σ 2 0 ∧ σ 2 0 ≤ 13 := hp0.1.1.1
  have hb1 : 0 ≤ σ 2 1 ∧ σ 2 1 ≤ 6 := hp0.1.1.2.1
  have hb8 : 0 ≤ σ 2 8 ∧ σ 2 8 ≤ σ 2 9 ∧ σ 2 9 ≤ 52 := hp0.1.1.2.2.1
  have hb9 : 0 ≤ σ 11 2 ∧ σ 11 2 ≤ 52 := hp0.1.2.2.2
  have hC := hp0.1
  refine xMVf (sh := (shW wlVF0 (wOn w 13))) (ci := 4) (τ := [181, 182, 183, 184, 185, 186, 187, 188, 2, 3, 4, 5, 6, 7, 8, 9, 10, 11, 12, 13, 14]) (E := xT kX4_look) (t := 181) (r := [xvr 2, xvi o]) (σ := σ) rfl rfl (fun Q1 hQ1 => sX4_look (σ := xsel [181, 182, 183, 184, 185, 186, 187, 188, 2, 3, 4, 5, 6, 7, 8, 9, 10, 11, 12, 13, 14] σ) (o := o) (show CG (xsel [8, 9, 10, 11, 12, 13, 14, 15, 16, 17, 18, 19, 20] (xsel [181, 182, 183, 184, 185, 186, 187, 188, 2, 3, 4, 5, 6, 7, 8, 9, 10, 11, 12, 13, 14] σ)) from hC) (show 0 ≤ o ∧ o ≤ 5 from by omega) (fun r1 ς1 f1 p1 => hQ1 _ _ ?_))
  replace f1 : Fr [181, 182, 183, 184, 185, 186, 187, 188] [] σ (xbk [181, 182, 183, 184, 185, 186, 187, 188, 2, 3, 4, 5, 6, 7, 8, 9, 10, 11, 12, 13, 14] σ ς1) := f1.bk (by decide) (by decide)
  replace p1 : (r1 = 1 ∧ (0 ≤ (xbk [181, 182, 183, 184, 185, 186, 187, 188, 2, 3, 4, 5, 6, 7, 8, 9, 10, 11, 12, 13, 14] σ ς1) 181 2 ∧ (xbk [181, 182, 183, 184, 185, 186, 187, 188, 2, 3, 4, 5, 6, 7, 8, 9, 10, 11, 12, 13, 14] σ ς1) 181 2 ≤ 12) ∧ (0 ≤ (xbk [181, 182, 183, 184, 185, 186, 187, 188, 2, 3, 4, 5, 6, 7, 8, 9, 10, 11, 12, 13, 14] σ ς1) 181 5 ∧ (xbk [181, 182, 183, 184, 185, 186, 187, 188, 2, 3, 4, 5, 6, 7, 8, 9, 10, 11, 12, 13, 14] σ ς1) 181 5 ≤ 6) ∧ (∀ i : Nat, (i : Int) < (xbk [181, 182, 183, 184, 185, 186, 187, 188, 2, 3, 4, 5, 6, 7, 8, 9, 10, 11, 12, 13, 14] σ ς1) 181 5 → 1 ≤ (xbk [181, 182, 183, 184, 185, 186, 187, 188, 2, 3, 4, 5, 6, 7, 8, 9, 10, 11, 12, 13, 14] σ ς1) 185 i ∧ (xbk [181, 182, 183, 184, 185, 186, 187, 188, 2, 3, 4, 5, 6, 7, 8, 9, 10, 11, 12, 13, 14] σ ς1) 185 i ≤ 4)) ∨ (r1 = 0 ∧ (0 : Int) ≤ 0) := p1
  generalize xbk [181, 182, 183, 184, 185, 186, 187, 188, 2, 3, 4, 5, 6, 7, 8, 9, 10, 11, 12, 13, 14] σ ς1 = σ1 at f1  p1 ⊢
  have hF := hF.tr f1 (by decide) (by decide)
  have hC := (JG.fr2 hp0 hF (by decide)).1
  refine And.intro (fun c2 => ?_) (fun c2 => ?_)
  · refine hX 400 65 _ _ ?_
    refine xMVf (sh := (shW wlVF0 (wOn w 13))) (ci := 4) (τ := [181, 182, 183, 184, 185, 186, 187, 188, 2, 3, 4, 5, 6, 7, 8, 9, 10, 11, 12, 13, 14]) (E := xT kX4_waysWithSome) (t := 181) (r := [xvr 2, xvi q, xvi kind]) (σ := σ1) rfl rfl (fun Q3 hQ3 => sX4_waysWithSome (σ := xsel [181, 182, 183, 184, 185, 186, 187, 188, 2, 3, 4, 5, 6, 7, 8, 9, 10, 11, 12, 13, 14] σ1) (q := q) (kind := kind) (show CG (xsel [8, 9, 10, 11, 12, 13, 14, 15, 16, 17, 18, 19, 20] (xsel [181, 182, 183, 184, 185, 186, 187, 188, 2, 3, 4, 5, 6, 7, 8, 9, 10, 11, 12, 13, 14] σ1)) from hC) (show 0 ≤ q ∧ q ≤ 5 from by omega) (show 0 ≤ kind ∧ kind ≤ 12 from by omega) (show 0 ≤ (σ1 181 2) ∧ (σ1 181 2) ≤ 12 from by omega) (show 0 ≤ (σ1 181 5) ∧ (σ1 181 5) ≤ 6 from by omega) (show ∀ i : Nat, (i : Int) < (σ1 181 5) → 1 ≤ σ1 185 i ∧ σ1 185 i ≤ 4 from p1.elim (fun u => u.2.2.2) (fun u => absurd u.1 (by omega))) (fun r3 ς3 f3 => hQ3 _ _ ?_))
    replace f3 : Fr [181, 186, 187, 188] [] σ1 (xbk [181, 182, 183, 184, 185, 186, 187, 188, 2, 3, 4, 5, 6, 7, 8, 9, 10, 11, 12, 13, 14] σ1 ς3) := f3.bk (by decide) (by decide)
    generalize xbk [181, 182, 183, 184, 185, 186, 187, 188, 2, 3, 4, 5, 6, 7, 8, 9, 10, 11, 12, 13, 14] σ1 ς3 = σ3 at f3  ⊢
    have hF := hF.tr f3 (by decide) (by decide)
    intro v4 e4 l4 h4
    have e4 : v4 = σ3 181 9 := e4
    refine xMSp (τ := [0, 1, 2, 3, 4, 5, 6, 7, 8, 9, 10, 11, 12, 13, 14, 15, 16, 17, 18, 19, 20, 21, 22, 23, 24, 25, 26, 27, 28, 29, 30, 31, 32, 33, 34, 35, 36, 37, 38, 39, 40, 41, 42, 43, 44, 45, 46]) (E := xT kX10_part) (r := [xvl r3, xvl v4, xvi what]) (σ := σ3) rfl xbk_sel (fun Q5 hQ5 => sX10_part (σ := xsel [0, 1, 2, 3, 4, 5, 6, 7, 8, 9, 10, 11, 12, 13, 14, 15, 16, 17, 18, 19, 20, 21, 22, 23, 24, 25, 26, 27, 28, 29, 30, 31, 32, 33, 34, 35, 36, 37, 38, 39, 40, 41, 42, 43, 44, 45, 46] σ3) (above := r3) (below := v4) (what := what)  (fun r5 => hQ5 _ ?_))
    refine And.intro rfl (And.intro rfl ?_)
    exact hQ _ _ hF
  · exact hZZ _ _ _ (hT _ hF)
set_option maxHeartbeats 4000000 in
set_option maxRecDepth 100000 in
theorem pX10_next_a {w : Nat → Bool} {σ : xS} {o kind what : Int} {Q : Option xV → xS → Prop} {Z : Nat → List xV → xS → Prop} (hp0 : JG (xsel [2, 3, 4, 5, 6, 7, 8, 9, 10, 11, 12, 13, 14] σ)) (hT : Z 31 [xvr 0, xvi o, xvi kind, xvi what, xvu, xvu] σ) (hT2 : ∀ left : Int, Z 56 [xvr 0, xvi o, xvi kind, xvi what, xvi left, xvu] σ) (hZ : ∀ left : Int, (0 ≤ o ∧ o ≤ 5) → (0 ≤ kind ∧ kind ≤ 12) → (0 ≤ left ∧ left ≤ 52) → Z 67 [xvr 0, xvi o, xvi kind, xvi what, xvi left, xvu] σ) : xTE (kX10_next_a w) Q Z 0 [xvr 0, xvi o, xvi kind, xvi what, xvu, xvu] σ := by
  intro X hX hZZ
  have hF : Fr [] [] σ σ := Fr.rf
  refine hX 400 0 _ _ ?_
  have hb0 : 0 ≤ σ 2 0 ∧ σ 2 0 ≤ 13 := hp0.1.1.1
  have hb1 : 0 ≤ σ 2 1 ∧ σ 2 1 ≤ 6 := hp0.1.1.2.1
  have hb8 : 0 ≤ σ 2 8 ∧ σ 2 8 ≤ σ 2 9 ∧ σ 2 9 ≤ 52 := hp0.1.1.2.2.1
  have hb9 : 0 ≤ σ 11 2 ∧ σ 11 2 ≤ 52 := hp0.1.2.2.2
  refine xMVp (sh := (shW wlVF0 w)) (ci := 2) (τ := [2, 3, 4, 5, 6, 7, 8, 9, 10, 11, 12, 13, 14]) (E := xT kX2_hasPerson) (t := 2) (r := [xvi o]) (σ := σ) rfl rfl xbk_sel (fun Q1 hQ1 => sX2_hasPerson (σ := xsel [2, 3, 4, 5, 6, 7, 8, 9, 10, 11, 12, 13, 14] σ) (p := o)  (fun r1 p1 => hQ1 _ ?_))
  have p1 : (r1 = 1 ∧ 0 ≤ o ∧ o < (σ 2 1)) ∨ (r1 = 0 ∧ (o < 0 ∨ (σ 2 1) ≤ o)) := p1
  refine And.intro (fun c2 => ?_) (fun c2 => ?_)
  · replace p1 : (o < 0 ∨ (σ 2 1) ≤ o) := by
      rcases p1 with q | q
      · exact absurd q.1 (by omega)
      · exact q.2
    exact hZZ _ _ _ hT
  · replace p1 : 0 ≤ o ∧ o < (σ 2 1) := by
      rcases p1 with q | q
      · exact q.2
      · exact absurd q.1 (by omega)
    refine xMVp (sh := (shW wlVF0 w)) (ci := 2) (τ := [2, 3, 4, 5, 6, 7, 8, 9, 10, 11, 12, 13, 14]) (E := xT kX2_hasKind) (t := 2) (r := [xvi kind]) (σ := σ) rfl rfl xbk_sel (fun Q3 hQ3 => sX2_hasKind (σ := xsel [2, 3, 4, 5, 6, 7, 8, 9, 10, 11, 12, 13, 14] σ) (kind := kind)  (fun r3 p3 => hQ3 _ ?_))
    have p3 : (r3 = 1 ∧ 0 ≤ kind ∧ kind < (σ 2 0)) ∨ (r3 = 0 ∧ (kind < 0 ∨ (σ 2 0) ≤ kind)) := p3
    refine And.intro (fun c4 => ?_) (fun c4 => ?_)
    · replace p3 : (kind < 0 ∨ (σ 2 0) ≤ kind) := by
        rcases p3 with q | q
        · exact absurd q.1 (by omega)
        · exact q.2
      exact hZZ _ _ _ hT
    · replace p3 : 0 ≤ kind ∧ kind < (σ 2 0) := by
        rcases p3 with q | q
        · exact q.2
        · exact absurd q.1 (by omega)
      refine And.intro (fun c5 => ?_) (fun c5 => ?_)
      · exact hZZ _ _ _ hT
      · refine And.intro (fun c6 => ?_) (fun c6 => ?_)
        · refine xMVp (sh := (shW wlVF0 w)) (ci := 2) (τ := [2, 3, 4, 5, 6, 7, 8, 9, 10, 11, 12, 13, 14]) (E := xT kX2_heapSize) (t := 2) (r := []) (σ := σ) rfl rfl xbk_sel (fun Q7 hQ7 => sX2_heapSize (σ := xsel [2, 3, 4, 5, 6, 7, 8, 9, 10, 11, 12, 13, 14] σ)  (show 0 ≤ (σ 2 8) ∧ (σ 2 8) ≤ (σ 2 9) ∧ (σ 2 9) ≤ 52 from by omega) (fun r7 p7 => hQ7 _ ?_))
          have p7 : r7 = (σ 2 9) - (σ 2 8) := p7
          refine And.intro (Nat.le_of_ble_eq_true rfl) ?_
          show xw _ _ _ _ _ _ _ _ _ _ [xvr 0, xvi o, xvi kind, xvi what, xvi r7, xvu] _ _
          refine And.intro (fun c8 => ?_) (fun c8 => ?_)
          · exact hZZ _ _ _ (hZ _ (by omega) (by omega) (by omega))
          · exact hZZ _ _ _ (hT2 _)
        · exact hZZ _ _ _ hT
set_option maxHeartbeats 4000000 in
set_option maxRecDepth 100000 in
theorem pX10_next_b {w : Nat → Bool} {σ : xS} {o kind what left : Int} {Q : Option xV → xS → Prop} {Z : Nat → List xV → xS → Prop} (hp0 : JG (xsel [2, 3, 4, 5, 6, 7, 8, 9, 10, 11, 12, 13, 14] σ)) (hp1 : 0 ≤ o ∧ o ≤ 5) (hp2 : 0 ≤ kind ∧ kind ≤ 12) (hp3 : 0 ≤ left ∧ left ≤ 52) (hQ : ∀ r : Int, ∀ σ' : xS, Fr [181, 182, 183, 184, 185, 186, 187, 188] [] σ σ' → Q (some (xvl r)) σ')(hT : ∀ σ' : xS, Fr [181, 182, 183, 184, 185, 186, 187, 188] [] σ σ' → Z 86 [xvr 0, xvi o, xvi kind, xvi what, xvi left, xvr 181] σ') : xTE (kX10_next_b (wOn w 13)) Q Z 73 [xvr 0, xvi o, xvi kind, xvi what, xvi left, xvr 181] σ := by
  intro X hX hZZ
  have hF : Fr [181, 182, 183, 184, 185, 186, 187, 188] [] σ σ := Fr.rf
  refine hX 400 73 _ _ ?_
  have hb0 : 0 ≤ σ 2 0 ∧ σ 2 0 ≤ 13 := hp0.1.1.1
  have hb1 : 0 ≤ σ 2 1 ∧ σ 2 1 ≤ 6 := hp0.1.1.2.1
  have hb8 : 0 ≤ σ 2 8 ∧ σ 2 8 ≤ σ 2 9 ∧ σ 2 9 ≤ 52 := hp0.1.1.2.2.1
  have hb9 : 0 ≤ σ 11 2 ∧ σ 11 2 ≤ 52 := hp0.1.2.2.2
  have hC := hp0.1
  refine xMVf (sh := (shW wlVF0 (wOn w 13))) (ci := 4) (τ := [181, 182, 183, 184, 185, 186, 187, 188, 2, 3, 4, 5, 6, 7, 8, 9, 10, 11, 12, 13, 14]) (E := xT kX4_look) (t := 181) (r := [xvr 2, xvi o]) (σ := σ) rfl rfl (fun Q1 hQ1 => sX4_look (σ := xsel [181, 182, 183, 184, 185, 186, 187, 188, 2, 3, 4, 5, 6, 7, 8, 9, 10, 11, 12, 13, 14] σ) (o := o) (show CG (xsel [8, 9, 10, 11, 12, 13, 14, 15, 16, 17, 18, 19, 20] (xsel [181, 182, 183, 184, 185, 186, 187, 188, 2, 3, 4, 5, 6, 7, 8, 9, 10, 11, 12, 13, 14] σ)) from hC) (show 0 ≤ o ∧ o ≤ 5 from by omega) (fun r1 ς1 f1 p1 => hQ1 _ _ ?_))
  replace f1 : Fr [181, 182, 183, 184, 185, 186, 187, 188] [] σ (xbk [181, 182, 183, 184, 185, 186, 187, 188, 2, 3, 4, 5, 6, 7, 8, 9, 10, 11, 12, 13, 14] σ ς1) := f1.bk (by decide) (by decide)
  replace p1 : (r1 = 1 ∧ (0 ≤ (xbk [181, 182, 183, 184, 185, 186, 187, 188, 2, 3, 4, 5, 6, 7, 8, 9, 10, 11, 12, 13, 14] σ ς1) 181 2 ∧ (xbk [181, 182, 183, 184, 185, 186, 187, 188, 2, 3, 4, 5, 6, 7, 8, 9, 10, 11, 12, 13, 14] σ ς1) 181 2 ≤ 12) ∧ (0 ≤ (xbk [181, 182, 183, 184, 185, 186, 187, 188, 2, 3, 4, 5, 6, 7, 8, 9, 10, 11, 12, 13, 14] σ ς1) 181 5 ∧ (xbk [181, 182, 183, 184, 185, 186, 187, 188, 2, 3, 4, 5, 6, 7, 8, 9, 10, 11, 12, 13, 14] σ ς1) 181 5 ≤ 6) ∧ (∀ i : Nat, (i : Int) < (xbk [181, 182, 183, 184, 185, 186, 187, 188, 2, 3, 4, 5, 6, 7, 8, 9, 10, 11, 12, 13, 14] σ ς1) 181 5 → 1 ≤ (xbk [181, 182, 183, 184, 185, 186, 187, 188, 2, 3, 4, 5, 6, 7, 8, 9, 10, 11, 12, 13, 14] σ ς1) 185 i ∧ (xbk [181, 182, 183, 184, 185, 186, 187, 188, 2, 3, 4, 5, 6, 7, 8, 9, 10, 11, 12, 13, 14] σ ς1) 185 i ≤ 4)) ∨ (r1 = 0 ∧ (0 : Int) ≤ 0) := p1
  generalize xbk [181, 182, 183, 184, 185, 186, 187, 188, 2, 3, 4, 5, 6, 7, 8, 9, 10, 11, 12, 13, 14] σ ς1 = σ1 at f1  p1 ⊢
  have hF := hF.tr f1 (by decide) (by decide)
  refine And.intro (fun c2 => ?_) (fun c2 => ?_)
  · refine hX 400 96 _ _ ?_
    refine xMVf (sh := (shW wlVF0 (wOn w 13))) (ci := 4) (τ := [181, 182, 183, 184, 185, 186, 187, 188]) (E := xT kX4_waysDrawn) (t := 181) (r := [xvi kind]) (σ := σ1) rfl rfl (fun Q3 hQ3 => sX4_waysDrawn (σ := xsel [181, 182, 183, 184, 185, 186, 187, 188] σ1) (kind := kind) (show 0 ≤ (σ1 181 2) ∧ (σ1 181 2) ≤ 12 from by omega) (show 0 ≤ (σ1 181 5) ∧ (σ1 181 5) ≤ 6 from by omega) (show ∀ i : Nat, (i : Int) < (σ1 181 5) → 1 ≤ σ1 185 i ∧ σ1 185 i ≤ 4 from p1.elim (fun u => u.2.2.2) (fun u => absurd u.1 (by omega))) (fun r3 ς3 f3 => hQ3 _ _ ?_))
    replace f3 : Fr [181, 185, 186, 187, 188] [] σ1 (xbk [181, 182, 183, 184, 185, 186, 187, 188] σ1 ς3) := f3.bk (by decide) (by decide)
    generalize xbk [181, 182, 183, 184, 185, 186, 187, 188] σ1 ς3 = σ3 at f3  ⊢
    have hF := hF.tr f3 (by decide) (by decide)
    intro v4 e4 l4 h4
    have e4 : v4 = σ3 181 9 := e4
    intro z5 t5 e5 l5 h5
    refine xMSp (τ := [0, 1, 2, 3, 4, 5, 6, 7, 8, 9, 10, 11, 12, 13, 14, 15, 16, 17, 18, 19, 20, 21, 22, 23, 24, 25, 26, 27, 28, 29, 30, 31, 32, 33, 34, 35, 36, 37, 38, 39, 40, 41, 42, 43, 44, 45, 46]) (E := xT kX10_part) (r := [xvl r3, xvl z5, xvi what]) (σ := σ3) rfl xbk_sel (fun Q6 hQ6 => sX10_part (σ := xsel [0, 1, 2, 3, 4, 5, 6, 7, 8, 9, 10, 11, 12, 13, 14, 15, 16, 17, 18, 19, 20, 21, 22, 23, 24, 25, 26, 27, 28, 29, 30, 31, 32, 33, 34, 35, 36, 37, 38, 39, 40, 41, 42, 43, 44, 45, 46] σ3) (above := r3) (below := z5) (what := what)  (fun r6 => hQ6 _ ?_))
    refine And.intro rfl (And.intro rfl ?_)
    exact hQ _ _ hF
  · exact hZZ _ _ _ (hT _ hF)
set_option maxHeartbeats 4000000 in
set_option maxRecDepth 100000 in
theorem pX10_hand_a {w : Nat → Bool} {σ : xS} {p kind : Int} {Q : Option xV → xS → Prop} {Z : Nat → List xV → xS → Prop} (hp0 : JG (xsel [2, 3, 4, 5, 6, 7, 8, 9, 10, 11, 12, 13, 14] σ)) (hQ : ∀ r : Int, ∀ σ' : xS, Fr [] [] σ σ' → Q (some (xvi r)) σ')(hT : Z 22 [xvr 0, xvi p, xvi kind] σ) : xTE (kX10_hand_a w) Q Z 0 [xvr 0, xvi p, xvi kind] σ := by
  intro X hX hZZ
  have hF : Fr [] [] σ σ := Fr.rf
  refine hX 400 0 _ _ ?_
  have hb0 : 0 ≤ σ 2 0 ∧ σ 2 0 ≤ 13 := hp0.1.1.1
  have hb1 : 0 ≤ σ 2 1 ∧ σ 2 1 ≤ 6 := hp0.1.1.2.1
  have hb8 : 0 ≤ σ 2 8 ∧ σ 2 8 ≤ σ 2 9 ∧ σ 2 9 ≤ 52 := hp0.1.1.2.2.1
  have hb9 : 0 ≤ σ 11 2 ∧ σ 11 2 ≤ 52 := hp0.1.2.2.2
  refine xMVp (sh := (shW wlVF0 w)) (ci := 2) (τ := [2, 3, 4, 5, 6, 7, 8, 9, 10, 11, 12, 13, 14]) (E := xT kX2_hasPerson) (t := 2) (r := [xvi p]) (σ := σ) rfl rfl xbk_sel (fun Q1 hQ1 => sX2_hasPerson (σ := xsel [2, 3, 4, 5, 6, 7, 8, 9, 10, 11, 12, 13, 14] σ) (p := p)  (fun r1 p1 => hQ1 _ ?_))
  have p1 : (r1 = 1 ∧ 0 ≤ p ∧ p < (σ 2 1)) ∨ (r1 = 0 ∧ (p < 0 ∨ (σ 2 1) ≤ p)) := p1
  refine And.intro (fun c2 => ?_) (fun c2 => ?_)
  · replace p1 : (p < 0 ∨ (σ 2 1) ≤ p) := by
      rcases p1 with q | q
      · exact absurd q.1 (by omega)
      · exact q.2
    exact hZZ _ _ _ hT
  · replace p1 : 0 ≤ p ∧ p < (σ 2 1) := by
      rcases p1 with q | q
      · exact q.2
      · exact absurd q.1 (by omega)
    refine xMVp (sh := (shW wlVF0 w)) (ci := 2) (τ := [2, 3, 4, 5, 6, 7, 8, 9, 10, 11, 12, 13, 14]) (E := xT kX2_hasKind) (t := 2) (r := [xvi kind]) (σ := σ) rfl rfl xbk_sel (fun Q3 hQ3 => sX2_hasKind (σ := xsel [2, 3, 4, 5, 6, 7, 8, 9, 10, 11, 12, 13, 14] σ) (kind := kind)  (fun r3 p3 => hQ3 _ ?_))
    have p3 : (r3 = 1 ∧ 0 ≤ kind ∧ kind < (σ 2 0)) ∨ (r3 = 0 ∧ (kind < 0 ∨ (σ 2 0) ≤ kind)) := p3
    refine And.intro (fun c4 => ?_) (fun c4 => ?_)
    · replace p3 : 0 ≤ kind ∧ kind < (σ 2 0) := by
        rcases p3 with q | q
        · exact q.2
        · exact absurd q.1 (by omega)
      refine hX 400 32 _ _ ?_
      refine xMVp (sh := (shW wlVF0 w)) (ci := 2) (τ := [2, 3, 4, 5, 6, 7, 8, 9, 10, 11, 12, 13, 14]) (E := xT kX2_held) (t := 2) (r := [xvi p, xvi kind]) (σ := σ) rfl rfl xbk_sel (fun Q5 hQ5 => sX2_held (σ := xsel [2, 3, 4, 5, 6, 7, 8, 9, 10, 11, 12, 13, 14] σ) (p := p) (kind := kind) (show 0 ≤ p ∧ p ≤ 5 from by omega) (show 0 ≤ kind ∧ kind ≤ 12 from by omega) (fun r5 p5 => hQ5 _ ?_))
      have p5 : r5 = σ 4 (13 * p + kind).toNat := p5
      refine And.intro rfl ?_
      exact hQ _ _ hF
    · replace p3 : (kind < 0 ∨ (σ 2 0) ≤ kind) := by
        rcases p3 with q | q
        · exact absurd q.1 (by omega)
        · exact q.2
      exact hZZ _ _ _ hT
set_option maxHeartbeats 4000000 in
set_option maxRecDepth 100000 in
theorem pX10_play_b {w : Nat → Bool} {gv gu : xV} {σ : xS} {n done : Int} {Q : Option xV → xS → Prop} {Z : Nat → List xV → xS → Prop} (hQ : ∀ r : Int, ∀ σ' : xS, Fr [] [] σ σ' → Q (some (xvi r)) σ') : xTE (kX10_play_b w) Q Z 158 [xvr 0, xvi n, gv, xvi done, gu] σ := by
  intro X hX hZZ
  have hF : Fr [] [] σ σ := Fr.rf
  refine hX 400 158 _ _ ?_
  refine And.intro rfl ?_
  exact hQ _ _ hF
set_option maxHeartbeats 4000000 in
set_option maxRecDepth 100000 in
theorem pX10_evening_a {w : Nat → Bool} {σ : xS} {lives : Int} {Q : Option xV → xS → Prop} {Z : Nat → List xV → xS → Prop} (hQ : ∀ r : Int, ∀ σ' : xS, Fr [] [] σ σ' → ((lives < 0 ∨ 1 < lives)) → Q (some (xvi r)) σ')(hZ : (0 ≤ lives ∧ lives ≤ 1) → Z 13 [xvr 0, xvi lives, xvu, xvu] σ) : xTE (kX10_evening_a w) Q Z 0 [xvr 0, xvi lives, xvu, xvu] σ := by
  intro X hX hZZ
  have hF : Fr [] [] σ σ := Fr.rf
  refine hX 400 0 _ _ ?_
  have lp_9 : ∀ (_ : Unit), (lives < 0 ∨ 1 < lives) → X 9 [xvr 0, xvi lives, xvu, xvu] σ := by
    intro _ hv_9
    refine hX 400 9 _ _ ?_
    refine And.intro rfl ?_
    exact hQ _ _ hF (show (lives < 0 ∨ 1 < lives) from by first | trivial | omega)
  refine And.intro (fun c2 => ?_) (fun c2 => ?_)
  · exact lp_9 () (show lives < 0 ∨ 1 < lives from by first | trivial | omega | (refine ⟨by assumption, ?_⟩; omega) | (refine ⟨?_, ?_⟩ <;> omega))
  · refine And.intro (fun c3 => ?_) (fun c3 => ?_)
    · exact hZZ _ _ _ (hZ (by omega))
    · exact lp_9 () (show lives < 0 ∨ 1 < lives from by first | trivial | omega | (refine ⟨by assumption, ?_⟩; omega) | (refine ⟨?_, ?_⟩ <;> omega))
