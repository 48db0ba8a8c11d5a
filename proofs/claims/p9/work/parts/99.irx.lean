/-! areSuch, told twice. -/
set_option maxHeartbeats 4000000 in
set_option maxRecDepth 100000 in
theorem sX10_areSuch2 {σ : xS} {p q kind : Int} {Q : Option xV → xS → Prop} (hp0 : JG (xsel [2, 3, 4, 5, 6, 7, 8, 9, 10, 11, 12, 13, 14] σ)) (hQ : ∀ r : Int, ((r = 1 ∧ (0 ≤ p ∧ p < σ 2 1) ∧ (0 ≤ q ∧ q < σ 2 1) ∧ (0 ≤ kind ∧ kind < σ 2 0)) ∨ (r = 0 ∧ ((p < 0 ∨ σ 2 1 ≤ p) ∨ (q < 0 ∨ σ 2 1 ≤ q) ∨ (kind < 0 ∨ σ 2 0 ≤ kind)))) → Q (some (xvi r)) σ) : xT kX10_areSuch [xvr 0, xvi p, xvi q, xvi kind] σ Q := by
  refine ⟨Nat.le_of_ble_eq_true rfl, fun X hX => ?_⟩
  show X 0 [xvr 0, xvi p, xvi q, xvi kind] σ
  refine hX 400 0 _ _ ?_
  have hb0 : 0 ≤ σ 2 0 ∧ σ 2 0 ≤ 13 := hp0.1.1.1
  have hb1 : 0 ≤ σ 2 1 ∧ σ 2 1 ≤ 6 := hp0.1.1.2.1
  have hb8 : 0 ≤ σ 2 8 ∧ σ 2 8 ≤ σ 2 9 ∧ σ 2 9 ≤ 52 := hp0.1.1.2.2.1
  have hb9 : 0 ≤ σ 11 2 ∧ σ 11 2 ≤ 52 := hp0.1.2.2.2
  have lp_37 : ∀ (_ : Unit), ((p < 0 ∨ σ 2 1 ≤ p) ∨ (q < 0 ∨ σ 2 1 ≤ q) ∨ (kind < 0 ∨ σ 2 0 ≤ kind)) → X 37 [xvr 0, xvi p, xvi q, xvi kind] σ := by
    intro _ hv_37
    refine hX 400 37 _ _ ?_
    refine And.intro rfl ?_
    refine And.intro (by omega) ?_
    exact hQ _ (show (0 = 1 ∧ (0 ≤ p ∧ p < σ 2 1) ∧ (0 ≤ q ∧ q < σ 2 1) ∧ (0 ≤ kind ∧ kind < σ 2 0)) ∨ (0 = 0 ∧ ((p < 0 ∨ σ 2 1 ≤ p) ∨ (q < 0 ∨ σ 2 1 ≤ q) ∨ (kind < 0 ∨ σ 2 0 ≤ kind))) from by first | trivial | omega)
  refine xMVp (sh := shB0) (ci := 2) (τ := [2, 3, 4, 5, 6, 7, 8, 9, 10, 11, 12, 13, 14]) (E := xT kX2_hasPerson) (t := 2) (r := [xvi p]) (σ := σ) rfl rfl xbk_sel (fun Q2 hQ2 => sX2_hasPerson (σ := xsel [2, 3, 4, 5, 6, 7, 8, 9, 10, 11, 12, 13, 14] σ) (p := p)  (fun r2 p2 => hQ2 _ ?_))
  have p2 : (r2 = 1 ∧ 0 ≤ p ∧ p < (σ 2 1)) ∨ (r2 = 0 ∧ (p < 0 ∨ (σ 2 1) ≤ p)) := p2
  refine And.intro (fun c3 => ?_) (fun c3 => ?_)
  · replace p2 : (p < 0 ∨ (σ 2 1) ≤ p) := by
      rcases p2 with q | q
      · exact absurd q.1 (by omega)
      · exact q.2
    exact lp_37 () (show ((p < 0 ∨ σ 2 1 ≤ p) ∨ (q < 0 ∨ σ 2 1 ≤ q) ∨ (kind < 0 ∨ σ 2 0 ≤ kind)) from by first | trivial | omega | (refine ⟨by assumption, ?_⟩; omega) | (refine ⟨?_, ?_⟩ <;> omega))
  · replace p2 : 0 ≤ p ∧ p < (σ 2 1) := by
      rcases p2 with q | q
      · exact q.2
      · exact absurd q.1 (by omega)
    refine xMVp (sh := shB0) (ci := 2) (τ := [2, 3, 4, 5, 6, 7, 8, 9, 10, 11, 12, 13, 14]) (E := xT kX2_hasPerson) (t := 2) (r := [xvi q]) (σ := σ) rfl rfl xbk_sel (fun Q4 hQ4 => sX2_hasPerson (σ := xsel [2, 3, 4, 5, 6, 7, 8, 9, 10, 11, 12, 13, 14] σ) (p := q)  (fun r4 p4 => hQ4 _ ?_))
    have p4 : (r4 = 1 ∧ 0 ≤ q ∧ q < (σ 2 1)) ∨ (r4 = 0 ∧ (q < 0 ∨ (σ 2 1) ≤ q)) := p4
    refine And.intro (fun c5 => ?_) (fun c5 => ?_)
    · replace p4 : (q < 0 ∨ (σ 2 1) ≤ q) := by
        rcases p4 with q | q
        · exact absurd q.1 (by omega)
        · exact q.2
      exact lp_37 () (show ((p < 0 ∨ σ 2 1 ≤ p) ∨ (q < 0 ∨ σ 2 1 ≤ q) ∨ (kind < 0 ∨ σ 2 0 ≤ kind)) from by first | trivial | omega | (refine ⟨by assumption, ?_⟩; omega) | (refine ⟨?_, ?_⟩ <;> omega))
    · replace p4 : 0 ≤ q ∧ q < (σ 2 1) := by
        rcases p4 with q | q
        · exact q.2
        · exact absurd q.1 (by omega)
      refine xMVp (sh := shB0) (ci := 2) (τ := [2, 3, 4, 5, 6, 7, 8, 9, 10, 11, 12, 13, 14]) (E := xT kX2_hasKind) (t := 2) (r := [xvi kind]) (σ := σ) rfl rfl xbk_sel (fun Q6 hQ6 => sX2_hasKind (σ := xsel [2, 3, 4, 5, 6, 7, 8, 9, 10, 11, 12, 13, 14] σ) (kind := kind)  (fun r6 p6 => hQ6 _ ?_))
      have p6 : (r6 = 1 ∧ 0 ≤ kind ∧ kind < (σ 2 0)) ∨ (r6 = 0 ∧ (kind < 0 ∨ (σ 2 0) ≤ kind)) := p6
      refine And.intro (fun c7 => ?_) (fun c7 => ?_)
      · replace p6 : (kind < 0 ∨ (σ 2 0) ≤ kind) := by
          rcases p6 with q | q
          · exact absurd q.1 (by omega)
          · exact q.2
        exact lp_37 () (show ((p < 0 ∨ σ 2 1 ≤ p) ∨ (q < 0 ∨ σ 2 1 ≤ q) ∨ (kind < 0 ∨ σ 2 0 ≤ kind)) from by first | trivial | omega | (refine ⟨by assumption, ?_⟩; omega) | (refine ⟨?_, ?_⟩ <;> omega))
      · replace p6 : 0 ≤ kind ∧ kind < (σ 2 0) := by
          rcases p6 with q | q
          · exact q.2
          · exact absurd q.1 (by omega)
        refine And.intro rfl ?_
        refine And.intro (by omega) ?_
        exact hQ _ (show (1 = 1 ∧ (0 ≤ p ∧ p < σ 2 1) ∧ (0 ≤ q ∧ q < σ 2 1) ∧ (0 ≤ kind ∧ kind < σ 2 0)) ∨ (1 = 0 ∧ ((p < 0 ∨ σ 2 1 ≤ p) ∨ (q < 0 ∨ σ 2 1 ≤ q) ∨ (kind < 0 ∨ σ 2 0 ≤ kind))) from by first | trivial | omega)
