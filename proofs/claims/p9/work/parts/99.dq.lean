/-- a game as it stands between calls -/
def JG (f : xS) : Prop := CG f ∧ (f 0 2 = 0 ∨ f 0 2 = 1) ∧ ∀ i : Nat, (i : Int) < f 0 9 → f 4 i < f 0 0
set_option maxHeartbeats 4000000 in
set_option maxRecDepth 100000 in
theorem sX10_putFour {σ : xS} {number : Int} {Q : Option xV → xS → Prop} (hp0 : 0 ≤ σ 0 1 ∧ σ 0 1 ≤ 936) (hQ : ∀ σ' : xS, Fr [1] [1] σ σ' → (σ' 0 1 = σ 0 1 + 4) → Q none σ') : xT kX10_putFour [xvr 0, xvi number] σ Q := by
  refine ⟨Nat.le_of_ble_eq_true rfl, fun X hX => ?_⟩
  show X 0 [xvr 0, xvi number, xvu] σ
  have hF : Fr [1] [1] σ σ := Fr.rf
  refine hX 400 0 _ _ ?_
  refine And.intro (Nat.le_of_ble_eq_true rfl) ?_
  show xw _ _ _ _ _ _ _ _ _ _ [xvr 0, xvi number, xvi 24] _ _
  have lp_3 : ∀ (m3 : Nat) (sh : Int) (s1 : xS), ((sh + 8).toNat) = m3 → (Fr [1] [1] σ s1 ∧ (8 * (s1 0 1 - σ 0 1) = 24 - sh ∧ -8 ≤ sh ∧ sh ≤ 24)) → X 3 [xvr 0, xvi number, xvi sh] s1 := by
    intro m3
    induction m3 using Nat.strongRecOn with
    | _ m3 ih_3 =>
    intro sh s1 hm_3 hv_3
    obtain ⟨hF, hv_3⟩ := hv_3
    refine hX 400 3 _ _ ?_
    have lp_46 : ∀ (_ : Unit), (s1 0 1 = σ 0 1 + 4) → X 46 [xvr 0, xvi number, xvi sh] s1 := by
      intro _ hv_46
      refine hX 400 46 _ _ ?_
      refine And.intro rfl (And.intro rfl ?_)
      exact hQ _ hF (show (s1 0 1) = σ 0 1 + 4 from by first | trivial | omega)
    refine And.intro (fun c3 => ?_) (fun c3 => ?_)
    · exact lp_46 () (show s1 0 1 = σ 0 1 + 4 from by first | trivial | omega | (refine ⟨by assumption, ?_⟩; omega) | (refine ⟨?_, ?_⟩ <;> omega))
    · intro v4 e4 l4 h4
      have e4 : v4 = s1 0 1 := e4
      refine And.intro (fun c5 => ?_) (fun c5 => ?_)
      · exact lp_46 () (show s1 0 1 = σ 0 1 + 4 from by first | trivial | omega | (refine ⟨by assumption, ?_⟩; omega) | (refine ⟨?_, ?_⟩ <;> omega))
      · intro v6 e6 l6 h6
        have e6 : v6 = s1 0 1 := e6
        intro z7 e7 l7 h7
        intro z8 e8 l8 h8
        refine And.intro (Or.inl rfl) (And.intro (⟨by omega, by omega⟩) ?_)
        have hF := hF.pt (t := 1) (j := v6.toNat) (v := xbyte z8) (by decide) (by decide)
        intro v10 e10 l10 h10
        have e10 : v10 = s1 0 1 := e10
        intro z11 t11 e11 l11 h11
        try have w11 : t11 = 0 := by omega
        have hF := hF.p (j := 1) (v := z11) (by decide)
        intro z13 t13 e13 l13 h13
        try have w13 : t13 = 0 := by omega
        show xw _ _ _ _ _ _ _ _ _ _ [xvr 0, xvi number, xvi z13] _ _
        exact ih_3 _ (show (z13 + 8).toNat < m3 from by omega) z13 (xput (xput s1 1 v6.toNat (xbyte z8)) 0 1 z11) rfl ⟨hF, (show 8 * (z11 - σ 0 1) = 24 - z13 ∧ -8 ≤ z13 ∧ z13 ≤ 24 from by omega)⟩
  exact lp_3 _ 24 σ rfl ⟨hF, (show 8 * (σ 0 1 - σ 0 1) = 24 - 24 ∧ -8 ≤ 24 ∧ 24 ≤ 24 from by omega)⟩
set_option maxHeartbeats 4000000 in
set_option maxRecDepth 100000 in
theorem sX10_feed {σ : xS} {a b c d e : Int} {Q : Option xV → xS → Prop} (hp0 : 0 ≤ σ 0 1 ∧ σ 0 1 ≤ 940) (hQ : ∀ r : Int, ∀ σ' : xS, Fr [1] [1] σ σ' → ((940 < σ 0 1 + 20 ∧ r = -1 ∧ σ' 0 1 = σ 0 1) ∨ (σ 0 1 + 20 ≤ 940 ∧ r = σ 0 1 + 20 ∧ σ' 0 1 = σ 0 1 + 20)) → Q (some (xvi r)) σ') : xT kX10_feed [xvr 0, xvi a, xvi b, xvi c, xvi d, xvi e] σ Q := by
  refine ⟨Nat.le_of_ble_eq_true rfl, fun X hX => ?_⟩
  show X 0 [xvr 0, xvi a, xvi b, xvi c, xvi d, xvi e] σ
  have hF : Fr [1] [1] σ σ := Fr.rf
  refine hX 400 0 _ _ ?_
  intro v1 e1 l1 h1
  have e1 : v1 = σ 0 1 := e1
  intro z2 t2 e2 l2 h2
  try have w2 : t2 = 0 := by omega
  refine And.intro (fun c3 => ?_) (fun c3 => ?_)
  · refine sX10_putFour (σ := σ) (number := a) (show 0 ≤ (σ 0 1) ∧ (σ 0 1) ≤ 936 from by omega) (fun σ4 f4 p4 => ?_)
    have hF := hF.tr f4 (by decide) (by decide)
    have p4 : σ4 0 1 = (σ 0 1) + 4 := p4
    refine sX10_putFour (σ := σ4) (number := b) (show 0 ≤ (σ4 0 1) ∧ (σ4 0 1) ≤ 936 from by omega) (fun σ5 f5 p5 => ?_)
    have hF := hF.tr f5 (by decide) (by decide)
    have p5 : σ5 0 1 = (σ4 0 1) + 4 := p5
    refine sX10_putFour (σ := σ5) (number := c) (show 0 ≤ (σ5 0 1) ∧ (σ5 0 1) ≤ 936 from by omega) (fun σ6 f6 p6 => ?_)
    have hF := hF.tr f6 (by decide) (by decide)
    have p6 : σ6 0 1 = (σ5 0 1) + 4 := p6
    refine sX10_putFour (σ := σ6) (number := d) (show 0 ≤ (σ6 0 1) ∧ (σ6 0 1) ≤ 936 from by omega) (fun σ7 f7 p7 => ?_)
    have hF := hF.tr f7 (by decide) (by decide)
    have p7 : σ7 0 1 = (σ6 0 1) + 4 := p7
    refine sX10_putFour (σ := σ7) (number := e) (show 0 ≤ (σ7 0 1) ∧ (σ7 0 1) ≤ 936 from by omega) (fun σ8 f8 p8 => ?_)
    have hF := hF.tr f8 (by decide) (by decide)
    have p8 : σ8 0 1 = (σ7 0 1) + 4 := p8
    intro v9 e9 l9 h9
    have e9 : v9 = σ8 0 1 := e9
    refine And.intro rfl ?_
    exact hQ _ _ hF (show (940 < σ 0 1 + 20 ∧ v9 = -1 ∧ (σ8 0 1) = σ 0 1) ∨ (σ 0 1 + 20 ≤ 940 ∧ v9 = σ 0 1 + 20 ∧ (σ8 0 1) = σ 0 1 + 20) from by first | trivial | omega)
  · refine And.intro rfl ?_
    exact hQ _ _ hF (show (940 < σ 0 1 + 20 ∧ (-1) = -1 ∧ (σ 0 1) = σ 0 1) ∨ (σ 0 1 + 20 ≤ 940 ∧ (-1) = σ 0 1 + 20 ∧ (σ 0 1) = σ 0 1 + 20) from by first | trivial | omega)
set_option maxHeartbeats 4000000 in
set_option maxRecDepth 100000 in
theorem sX10_end {σ : xS} {n : Int} {Q : Option xV → xS → Prop} (hp0 : 0 ≤ σ 0 1 ∧ σ 0 1 ≤ 940) (hQ : ∀ r : Int, ∀ σ' : xS, Fr [] [1] σ σ' → (((n < 0 ∨ σ 0 1 < n) ∧ r = 0 ∧ σ' 0 1 = σ 0 1) ∨ (0 ≤ n ∧ n ≤ σ 0 1 ∧ r = 1 ∧ σ' 0 1 = n)) → Q (some (xvi r)) σ') : xT kX10_end [xvr 0, xvi n] σ Q := by
  refine ⟨Nat.le_of_ble_eq_true rfl, fun X hX => ?_⟩
  show X 0 [xvr 0, xvi n] σ
  have hF : Fr [] [1] σ σ := Fr.rf
  refine hX 400 0 _ _ ?_
  refine And.intro (fun c1 => ?_) (fun c1 => ?_)
  · refine hX 400 12 _ _ ?_
    refine And.intro rfl ?_
    refine And.intro (by omega) ?_
    exact hQ _ _ hF (show ((n < 0 ∨ σ 0 1 < n) ∧ 0 = 0 ∧ (σ 0 1) = σ 0 1) ∨ (0 ≤ n ∧ n ≤ σ 0 1 ∧ 0 = 1 ∧ (σ 0 1) = n) from by first | trivial | omega)
  · intro v2 e2 l2 h2
    have e2 : v2 = σ 0 1 := e2
    refine And.intro (fun c3 => ?_) (fun c3 => ?_)
    · have hF := hF.p (j := 1) (v := n) (by decide)
      refine And.intro rfl ?_
      refine And.intro (by omega) ?_
      exact hQ _ _ hF (show ((n < 0 ∨ σ 0 1 < n) ∧ 1 = 0 ∧ (n) = σ 0 1) ∨ (0 ≤ n ∧ n ≤ σ 0 1 ∧ 1 = 1 ∧ (n) = n) from by first | trivial | omega)
    · refine hX 400 12 _ _ ?_
      refine And.intro rfl ?_
      refine And.intro (by omega) ?_
      exact hQ _ _ hF (show ((n < 0 ∨ σ 0 1 < n) ∧ 0 = 0 ∧ (σ 0 1) = σ 0 1) ∨ (0 ≤ n ∧ n ≤ σ 0 1 ∧ 0 = 1 ∧ (σ 0 1) = n) from by first | trivial | omega)
set_option maxHeartbeats 4000000 in
set_option maxRecDepth 100000 in
theorem sX10_fault {σ : xS} {Q : Option xV → xS → Prop} (hQ : ∀ r : Int, Q (some (xvi r)) σ) : xT kX10_fault [xvr 0] σ Q := by
  refine ⟨Nat.le_of_ble_eq_true rfl, fun X hX => ?_⟩
  show X 0 [xvr 0] σ
  refine hX 400 0 _ _ ?_
  intro v1 e1 l1 h1
  have e1 : v1 = σ 0 2 := e1
  refine And.intro rfl ?_
  exact hQ _ 
set_option maxHeartbeats 4000000 in
set_option maxRecDepth 100000 in
theorem sX10_person {σ : xS} {p what : Int} {Q : Option xV → xS → Prop} (hp0 : JG (xsel [2, 3, 4, 5, 6, 7, 8, 9, 10, 11, 12, 13, 14] σ)) (hQ : ∀ r : Int, Q (some (xvi r)) σ) : xT kX10_person [xvr 0, xvi p, xvi what] σ Q := by
  refine ⟨Nat.le_of_ble_eq_true rfl, fun X hX => ?_⟩
  show X 0 [xvr 0, xvi p, xvi what] σ
  refine hX 400 0 _ _ ?_
  have hb0 : 0 ≤ σ 2 0 ∧ σ 2 0 ≤ 13 := hp0.1.1.1
  have hb1 : 0 ≤ σ 2 1 ∧ σ 2 1 ≤ 6 := hp0.1.1.2.1
  have hb8 : 0 ≤ σ 2 8 ∧ σ 2 8 ≤ σ 2 9 ∧ σ 2 9 ≤ 52 := hp0.1.1.2.2.1
  have hb9 : 0 ≤ σ 11 2 ∧ σ 11 2 ≤ 52 := hp0.1.2.2.2
  refine xMVp (sh := shB0) (ci := 2) (τ := [2, 3, 4, 5, 6, 7, 8, 9, 10, 11, 12, 13, 14]) (E := xT kX2_hasPerson) (t := 2) (r := [xvi p]) (σ := σ) rfl rfl xbk_sel (fun Q1 hQ1 => sX2_hasPerson (σ := xsel [2, 3, 4, 5, 6, 7, 8, 9, 10, 11, 12, 13, 14] σ) (p := p)  (fun r1 p1 => hQ1 _ ?_))
  have p1 : (r1 = 1 ∧ 0 ≤ p ∧ p < (σ 2 1)) ∨ (r1 = 0 ∧ (p < 0 ∨ (σ 2 1) ≤ p)) := p1
  refine And.intro (fun c2 => ?_) (fun c2 => ?_)
  · replace p1 : 0 ≤ p ∧ p < (σ 2 1) := by
      rcases p1 with q | q
      · exact q.2
      · exact absurd q.1 (by omega)
    refine And.intro (fun c3 => ?_) (And.intro rfl ?_)
    · refine And.intro rfl ?_
      exact hQ _ 
    refine And.intro (fun c3 => ?_) ?_
    · refine And.intro (rfl) (And.intro (⟨by omega, by omega⟩) ?_)
      intro v4 e4 l4 h4
      have e4 : v4 = σ 5 p.toNat := e4
      refine And.intro rfl ?_
      exact hQ _ 
    refine And.intro (fun c3 => ?_) ?_
    · refine xMVp (sh := shB0) (ci := 2) (τ := [2, 3, 4, 5, 6, 7, 8, 9, 10, 11, 12, 13, 14]) (E := xT kX2_booksOf) (t := 2) (r := [xvi p]) (σ := σ) rfl rfl xbk_sel (fun Q5 hQ5 => sX2_booksOf (σ := xsel [2, 3, 4, 5, 6, 7, 8, 9, 10, 11, 12, 13, 14] σ) (p := p) (show 0 ≤ (σ 2 0) ∧ (σ 2 0) ≤ 13 from by omega) (fun r5 p5 => hQ5 _ ?_))
      have p5 : 0 ≤ r5 ∧ r5 ≤ 13 := p5
      refine And.intro rfl ?_
      exact hQ _ 
    refine And.intro (fun c3 => ?_) ?_
    · refine xMVp (sh := shB0) (ci := 2) (τ := [2, 3, 4, 5, 6, 7, 8, 9, 10, 11, 12, 13, 14]) (E := xT kX2_kindBits) (t := 2) (r := [xvi p]) (σ := σ) rfl rfl xbk_sel (fun Q6 hQ6 => sX2_kindBits (σ := xsel [2, 3, 4, 5, 6, 7, 8, 9, 10, 11, 12, 13, 14] σ) (p := p) (show 0 ≤ (σ 2 0) ∧ (σ 2 0) ≤ 13 from by omega) (show 0 ≤ p ∧ p ≤ 5 from by omega) (fun r6 => hQ6 _ ?_))
      refine And.intro rfl ?_
      exact hQ _ 
    refine And.intro (fun c3 => ?_) ?_
    · refine xMVp (sh := shB0) (ci := 3) (τ := [2, 3, 4, 5, 6, 7, 8, 9, 10, 11, 12, 13, 14]) (E := xT kX3_othersOf) (t := 11) (r := [xvi p]) (σ := σ) rfl rfl xbk_sel (fun Q7 hQ7 => sX3_othersOf (σ := xsel [2, 3, 4, 5, 6, 7, 8, 9, 10, 11, 12, 13, 14] σ) (p := p) (show 0 ≤ (σ 11 2) ∧ (σ 11 2) ≤ 52 from by omega) (fun r7 => hQ7 _ ?_))
      refine And.intro rfl ?_
      exact hQ _ 
    refine And.intro (fun c3 => ?_) ?_
    · refine And.intro (rfl) (And.intro (⟨by omega, by omega⟩) ?_)
      intro v8 e8 l8 h8
      have e8 : v8 = σ 14 p.toNat := e8
      refine And.intro rfl ?_
      exact hQ _ 
    refine And.intro (fun c3 => ?_) ?_
    · refine And.intro (rfl) (And.intro (⟨by omega, by omega⟩) ?_)
      intro v9 e9 l9 h9
      have e9 : v9 = σ 8 p.toNat := e9
      refine And.intro rfl ?_
      exact hQ _ 
    refine And.intro (fun c3 => ?_) ?_
    · refine And.intro (rfl) (And.intro (⟨by omega, by omega⟩) ?_)
      intro v10 e10 l10 h10
      have e10 : v10 = σ 9 p.toNat := e10
      refine And.intro rfl ?_
      exact hQ _ 
    refine And.intro (fun c3 => ?_) ?_
    · refine And.intro (rfl) (And.intro (⟨by omega, by omega⟩) ?_)
      intro v11 e11 l11 h11
      have e11 : v11 = σ 10 p.toNat := e11
      refine And.intro rfl ?_
      exact hQ _ 
    exact trivial
  · replace p1 : (p < 0 ∨ (σ 2 1) ≤ p) := by
      rcases p1 with q | q
      · exact absurd q.1 (by omega)
      · exact q.2
    refine And.intro rfl ?_
    exact hQ _ 
set_option maxHeartbeats 4000000 in
set_option maxRecDepth 100000 in
theorem sX10_book {σ : xS} {kind : Int} {Q : Option xV → xS → Prop} (hp0 : JG (xsel [2, 3, 4, 5, 6, 7, 8, 9, 10, 11, 12, 13, 14] σ)) (hQ : ∀ r : Int, Q (some (xvi r)) σ) : xT kX10_book [xvr 0, xvi kind] σ Q := by
  refine ⟨Nat.le_of_ble_eq_true rfl, fun X hX => ?_⟩
  show X 0 [xvr 0, xvi kind] σ
  refine hX 400 0 _ _ ?_
  have hb0 : 0 ≤ σ 2 0 ∧ σ 2 0 ≤ 13 := hp0.1.1.1
  have hb1 : 0 ≤ σ 2 1 ∧ σ 2 1 ≤ 6 := hp0.1.1.2.1
  have hb8 : 0 ≤ σ 2 8 ∧ σ 2 8 ≤ σ 2 9 ∧ σ 2 9 ≤ 52 := hp0.1.1.2.2.1
  have hb9 : 0 ≤ σ 11 2 ∧ σ 11 2 ≤ 52 := hp0.1.2.2.2
  refine xMVp (sh := shB0) (ci := 2) (τ := [2, 3, 4, 5, 6, 7, 8, 9, 10, 11, 12, 13, 14]) (E := xT kX2_hasKind) (t := 2) (r := [xvi kind]) (σ := σ) rfl rfl xbk_sel (fun Q1 hQ1 => sX2_hasKind (σ := xsel [2, 3, 4, 5, 6, 7, 8, 9, 10, 11, 12, 13, 14] σ) (kind := kind)  (fun r1 p1 => hQ1 _ ?_))
  have p1 : (r1 = 1 ∧ 0 ≤ kind ∧ kind < (σ 2 0)) ∨ (r1 = 0 ∧ (kind < 0 ∨ (σ 2 0) ≤ kind)) := p1
  refine And.intro (fun c2 => ?_) (fun c2 => ?_)
  · replace p1 : (kind < 0 ∨ (σ 2 0) ≤ kind) := by
      rcases p1 with q | q
      · exact absurd q.1 (by omega)
      · exact q.2
    refine And.intro rfl ?_
    exact hQ _ 
  · replace p1 : 0 ≤ kind ∧ kind < (σ 2 0) := by
      rcases p1 with q | q
      · exact q.2
      · exact absurd q.1 (by omega)
    refine And.intro (rfl) (And.intro (⟨by omega, by omega⟩) ?_)
    intro v3 e3 l3 h3
    have e3 : v3 = σ 7 kind.toNat := e3
    refine And.intro rfl ?_
    exact hQ _ 
set_option maxHeartbeats 4000000 in
set_option maxRecDepth 100000 in
theorem sX10_heap {σ : xS} {i : Int} {Q : Option xV → xS → Prop} (hp0 : JG (xsel [2, 3, 4, 5, 6, 7, 8, 9, 10, 11, 12, 13, 14] σ)) (hQ : ∀ r : Int, Q (some (xvi r)) σ) : xT kX10_heap [xvr 0, xvi i] σ Q := by
  refine ⟨Nat.le_of_ble_eq_true rfl, fun X hX => ?_⟩
  show X 0 [xvr 0, xvi i] σ
  refine hX 400 0 _ _ ?_
  have hb0 : 0 ≤ σ 2 0 ∧ σ 2 0 ≤ 13 := hp0.1.1.1
  have hb1 : 0 ≤ σ 2 1 ∧ σ 2 1 ≤ 6 := hp0.1.1.2.1
  have hb8 : 0 ≤ σ 2 8 ∧ σ 2 8 ≤ σ 2 9 ∧ σ 2 9 ≤ 52 := hp0.1.1.2.2.1
  have hb9 : 0 ≤ σ 11 2 ∧ σ 11 2 ≤ 52 := hp0.1.2.2.2
  refine And.intro (fun c1 => ?_) (fun c1 => ?_)
  · refine hX 400 35 _ _ ?_
    refine And.intro rfl ?_
    exact hQ _ 
  · refine xMVp (sh := shB0) (ci := 2) (τ := [2, 3, 4, 5, 6, 7, 8, 9, 10, 11, 12, 13, 14]) (E := xT kX2_heapSize) (t := 2) (r := []) (σ := σ) rfl rfl xbk_sel (fun Q2 hQ2 => sX2_heapSize (σ := xsel [2, 3, 4, 5, 6, 7, 8, 9, 10, 11, 12, 13, 14] σ)  (show 0 ≤ (σ 2 8) ∧ (σ 2 8) ≤ (σ 2 9) ∧ (σ 2 9) ≤ 52 from by omega) (fun r2 p2 => hQ2 _ ?_))
    have p2 : r2 = (σ 2 9) - (σ 2 8) := p2
    refine And.intro (fun c3 => ?_) (fun c3 => ?_)
    · refine hX 400 35 _ _ ?_
      refine And.intro rfl ?_
      exact hQ _ 
    · intro v4 e4 l4 h4
      have e4 : v4 = σ 2 8 := e4
      intro z5 t5 e5 l5 h5
      try have w5 : t5 = 0 := by omega
      refine And.intro (rfl) (And.intro (⟨by omega, by omega⟩) ?_)
      intro v6 e6 l6 h6
      have e6 : v6 = σ 6 z5.toNat := e6
      refine And.intro rfl ?_
      exact hQ _ 
set_option maxHeartbeats 4000000 in
set_option maxRecDepth 100000 in
theorem sX10_now {σ : xS} {what : Int} {Q : Option xV → xS → Prop} (hp0 : JG (xsel [2, 3, 4, 5, 6, 7, 8, 9, 10, 11, 12, 13, 14] σ)) (hQ : ∀ r : Int, Q (some (xvi r)) σ) : xT kX10_now [xvr 0, xvi what] σ Q := by
  refine ⟨Nat.le_of_ble_eq_true rfl, fun X hX => ?_⟩
  show X 0 [xvr 0, xvi what] σ
  refine hX 400 0 _ _ ?_
  have hb0 : 0 ≤ σ 2 0 ∧ σ 2 0 ≤ 13 := hp0.1.1.1
  have hb1 : 0 ≤ σ 2 1 ∧ σ 2 1 ≤ 6 := hp0.1.1.2.1
  have hb8 : 0 ≤ σ 2 8 ∧ σ 2 8 ≤ σ 2 9 ∧ σ 2 9 ≤ 52 := hp0.1.1.2.2.1
  have hb9 : 0 ≤ σ 11 2 ∧ σ 11 2 ≤ 52 := hp0.1.2.2.2
  refine And.intro (fun c1 => ?_) (And.intro rfl ?_)
  · refine And.intro rfl ?_
    exact hQ _ 
  refine And.intro (fun c1 => ?_) ?_
  · intro v2 e2 l2 h2
    have e2 : v2 = σ 2 14 := e2
    refine And.intro rfl ?_
    exact hQ _ 
  refine And.intro (fun c1 => ?_) ?_
  · refine xMVp (sh := shB0) (ci := 2) (τ := [2, 3, 4, 5, 6, 7, 8, 9, 10, 11, 12, 13, 14]) (E := xT kX2_heapSize) (t := 2) (r := []) (σ := σ) rfl rfl xbk_sel (fun Q3 hQ3 => sX2_heapSize (σ := xsel [2, 3, 4, 5, 6, 7, 8, 9, 10, 11, 12, 13, 14] σ)  (show 0 ≤ (σ 2 8) ∧ (σ 2 8) ≤ (σ 2 9) ∧ (σ 2 9) ≤ 52 from by omega) (fun r3 p3 => hQ3 _ ?_))
    have p3 : r3 = (σ 2 9) - (σ 2 8) := p3
    refine And.intro rfl ?_
    exact hQ _ 
  refine And.intro (fun c1 => ?_) ?_
  · intro v4 e4 l4 h4
    have e4 : v4 = σ 2 15 := e4
    refine And.intro rfl ?_
    exact hQ _ 
  refine And.intro (fun c1 => ?_) ?_
  · refine xMVp (sh := shB0) (ci := 2) (τ := [2, 3, 4, 5, 6, 7, 8, 9, 10, 11, 12, 13, 14]) (E := xT kX2_allBooks) (t := 2) (r := []) (σ := σ) rfl rfl xbk_sel (fun Q5 hQ5 => sX2_allBooks (σ := xsel [2, 3, 4, 5, 6, 7, 8, 9, 10, 11, 12, 13, 14] σ)  (show 0 ≤ (σ 2 0) ∧ (σ 2 0) ≤ 13 from by omega) (fun r5 => hQ5 _ ?_))
    refine And.intro rfl ?_
    exact hQ _ 
  refine And.intro (fun c1 => ?_) ?_
  · intro v6 e6 l6 h6
    have e6 : v6 = σ 2 16 := e6
    refine And.intro rfl ?_
    exact hQ _ 
  refine And.intro (fun c1 => ?_) ?_
  · refine xMVp (sh := shB0) (ci := 2) (τ := [2, 3, 4, 5, 6, 7, 8, 9, 10, 11, 12, 13, 14]) (E := xT kX2_loose) (t := 2) (r := []) (σ := σ) rfl rfl xbk_sel (fun Q7 hQ7 => sX2_loose (σ := xsel [2, 3, 4, 5, 6, 7, 8, 9, 10, 11, 12, 13, 14] σ)  (show 0 ≤ (σ 2 1) ∧ (σ 2 1) ≤ 6 from by omega) (show 0 ≤ (σ 2 8) ∧ (σ 2 8) ≤ (σ 2 9) ∧ (σ 2 9) ≤ 52 from by omega) (fun r7 => hQ7 _ ?_))
    refine And.intro rfl ?_
    exact hQ _ 
  exact trivial
set_option maxHeartbeats 4000000 in
set_option maxRecDepth 100000 in
theorem sX10_areSuch {σ : xS} {p q kind : Int} {Q : Option xV → xS → Prop} (hp0 : JG (xsel [2, 3, 4, 5, 6, 7, 8, 9, 10, 11, 12, 13, 14] σ)) (hQ : ∀ r : Int, ((r = 1 ∧ (0 ≤ p ∧ p < σ 2 1) ∧ (0 ≤ q ∧ q < σ 2 1) ∧ (0 ≤ kind ∧ kind < σ 2 0)) ∨ (r = 0 ∧ (0 : Int) ≤ 0)) → Q (some (xvi r)) σ) : xT kX10_areSuch [xvr 0, xvi p, xvi q, xvi kind] σ Q := by
  refine ⟨Nat.le_of_ble_eq_true rfl, fun X hX => ?_⟩
  show X 0 [xvr 0, xvi p, xvi q, xvi kind] σ
  refine hX 400 0 _ _ ?_
  have hb0 : 0 ≤ σ 2 0 ∧ σ 2 0 ≤ 13 := hp0.1.1.1
  have hb1 : 0 ≤ σ 2 1 ∧ σ 2 1 ≤ 6 := hp0.1.1.2.1
  have hb8 : 0 ≤ σ 2 8 ∧ σ 2 8 ≤ σ 2 9 ∧ σ 2 9 ≤ 52 := hp0.1.1.2.2.1
  have hb9 : 0 ≤ σ 11 2 ∧ σ 11 2 ≤ 52 := hp0.1.2.2.2
  have lp_37 : ∀ (_ : Unit), (True) → X 37 [xvr 0, xvi p, xvi q, xvi kind] σ := by
    intro _ hv_37
    refine hX 400 37 _ _ ?_
    refine And.intro rfl ?_
    refine And.intro (by omega) ?_
    exact hQ _ (show (0 = 1 ∧ (0 ≤ p ∧ p < σ 2 1) ∧ (0 ≤ q ∧ q < σ 2 1) ∧ (0 ≤ kind ∧ kind < σ 2 0)) ∨ (0 = 0 ∧ (0 : Int) ≤ 0) from by first | trivial | omega)
  refine xMVp (sh := shB0) (ci := 2) (τ := [2, 3, 4, 5, 6, 7, 8, 9, 10, 11, 12, 13, 14]) (E := xT kX2_hasPerson) (t := 2) (r := [xvi p]) (σ := σ) rfl rfl xbk_sel (fun Q2 hQ2 => sX2_hasPerson (σ := xsel [2, 3, 4, 5, 6, 7, 8, 9, 10, 11, 12, 13, 14] σ) (p := p)  (fun r2 p2 => hQ2 _ ?_))
  have p2 : (r2 = 1 ∧ 0 ≤ p ∧ p < (σ 2 1)) ∨ (r2 = 0 ∧ (p < 0 ∨ (σ 2 1) ≤ p)) := p2
  refine And.intro (fun c3 => ?_) (fun c3 => ?_)
  · replace p2 : (p < 0 ∨ (σ 2 1) ≤ p) := by
      rcases p2 with q | q
      · exact absurd q.1 (by omega)
      · exact q.2
    exact lp_37 () (show True from by first | trivial | omega | (refine ⟨by assumption, ?_⟩; omega) | (refine ⟨?_, ?_⟩ <;> omega))
  · replace p2 : 0 ≤ p ∧ p < (σ 2 1) := by
      rcases p2 with q | q
      · exact q.2
      · exact absurd q.1 (by omega)
    refine xMVp (sh := shB0) (ci := 2) (τ := [2, 3, 4, 5, 6, 7, 8, 9, 10, 11, 12, 13, 14]) (E := xT kX2_hasPerson) (t := 2) (r := [xvi q]) (σ := σ) rfl rfl xbk_sel (fun Q4 hQ4 => sX2_hasPerson (σ := xsel [2, 3, 4, 5, 6, 7, 8, 9, 10, 11, 12, 13, 14] σ) (p := q)  (fun r4 p4 => hQ4 _ ?_))
    have p4 : (r4 = 1 ∧ 0 ≤ q ∧ q < (σ 2 1)) ∨ (r4 = 0 ∧ (q < 0 ∨ (σ 2 1) ≤ q)) := p4
    refine And.intro (fun c5 => ?_) (fun c5 => ?_)
    · replace p4 : (q < 0 ∨ (σ 2 1) ≤ q) := by
        rcases p4 with q | q
        · exact absurd q.1 (by omega)
        · exact q.2
      exact lp_37 () (show True from by first | trivial | omega | (refine ⟨by assumption, ?_⟩; omega) | (refine ⟨?_, ?_⟩ <;> omega))
    · replace p4 : 0 ≤ q ∧ q < (σ 2 1) := by
        rcases p4 with q | q
        · exact q.2
        · exact absurd q.1 (by omega)
      refine xMVp (sh := shB0) (ci := 2) (τ := [2, 3, 4, 5, 6, 7, 8, 9, 10, 11, 12, 13, 14]) (E := xT kX2_hasKind) (t := 2) (r := [xvi kind]) (σ := σ) rfl rfl xbk_sel (fun Q6 hQ6 => sX2_hasKind (σ := xsel [2, 3, 4, 5, 6, 7, 8, 9, 10, 11, 12, 13, 14] σ) (kind := kind)  (fun r6 p6 => hQ6 _ ?_))
      have p6 : (r6 = 1 ∧ 0 ≤ kind ∧ kind < (σ 2 0)) ∨ (r6 = 0 ∧ (kind < 0 ∨ (σ 2 0) ≤ kind)) := p6
      refine And.intro (fun c7 => ?_) (fun c7 => ?_)
      · replace p6 : (kind < 0 ∨ (σ 2 0) ≤ kind) := by
          rcases p6 with q | q
          · exact absurd q.1 (by omega)
          · exact q.2
        exact lp_37 () (show True from by first | trivial | omega | (refine ⟨by assumption, ?_⟩; omega) | (refine ⟨?_, ?_⟩ <;> omega))
      · replace p6 : 0 ≤ kind ∧ kind < (σ 2 0) := by
          rcases p6 with q | q
          · exact q.2
          · exact absurd q.1 (by omega)
        refine And.intro rfl ?_
        refine And.intro (by omega) ?_
        exact hQ _ (show (1 = 1 ∧ (0 ≤ p ∧ p < σ 2 1) ∧ (0 ≤ q ∧ q < σ 2 1) ∧ (0 ≤ kind ∧ kind < σ 2 0)) ∨ (1 = 0 ∧ (0 : Int) ≤ 0) from by first | trivial | omega)
set_option maxHeartbeats 4000000 in
set_option maxRecDepth 100000 in
theorem sX10_why {σ : xS} {p q kind : Int} {Q : Option xV → xS → Prop} (hp0 : JG (xsel [2, 3, 4, 5, 6, 7, 8, 9, 10, 11, 12, 13, 14] σ)) (hQ : ∀ r : Int, Q (some (xvi r)) σ) : xT kX10_why [xvr 0, xvi p, xvi q, xvi kind] σ Q := by
  refine ⟨Nat.le_of_ble_eq_true rfl, fun X hX => ?_⟩
  show X 0 [xvr 0, xvi p, xvi q, xvi kind] σ
  refine hX 400 0 _ _ ?_
  have hb0 : 0 ≤ σ 2 0 ∧ σ 2 0 ≤ 13 := hp0.1.1.1
  have hb1 : 0 ≤ σ 2 1 ∧ σ 2 1 ≤ 6 := hp0.1.1.2.1
  have hb8 : 0 ≤ σ 2 8 ∧ σ 2 8 ≤ σ 2 9 ∧ σ 2 9 ≤ 52 := hp0.1.1.2.2.1
  have hb9 : 0 ≤ σ 11 2 ∧ σ 11 2 ≤ 52 := hp0.1.2.2.2
  refine sX10_areSuch (σ := σ) (p := p) (q := q) (kind := kind) (show JG (xsel [2, 3, 4, 5, 6, 7, 8, 9, 10, 11, 12, 13, 14] σ) from by omega) (fun r1 p1 => ?_)
  have p1 : (r1 = 1 ∧ (0 ≤ p ∧ p < (σ 2 1)) ∧ (0 ≤ q ∧ q < (σ 2 1)) ∧ (0 ≤ kind ∧ kind < (σ 2 0))) ∨ (r1 = 0 ∧ (0 : Int) ≤ 0) := p1
  refine And.intro (fun c2 => ?_) (fun c2 => ?_)
  · replace p1 : (0 : Int) ≤ 0 := by
      rcases p1 with q | q
      · exact absurd q.1 (by omega)
      · exact q.2
    refine And.intro rfl ?_
    exact hQ _ 
  · replace p1 : (0 ≤ p ∧ p < (σ 2 1)) ∧ (0 ≤ q ∧ q < (σ 2 1)) ∧ (0 ≤ kind ∧ kind < (σ 2 0)) := by
      rcases p1 with q | q
      · exact q.2
      · exact absurd q.1 (by omega)
    refine xMVp (sh := shB0) (ci := 2) (τ := [2, 3, 4, 5, 6, 7, 8, 9, 10, 11, 12, 13, 14]) (E := xT kX2_whyNot) (t := 2) (r := [xvi p, xvi q, xvi kind]) (σ := σ) rfl rfl xbk_sel (fun Q3 hQ3 => sX2_whyNot (σ := xsel [2, 3, 4, 5, 6, 7, 8, 9, 10, 11, 12, 13, 14] σ) (p := p) (q := q) (kind := kind) (show 0 ≤ p ∧ p ≤ 5 from by omega) (show 0 ≤ kind ∧ kind ≤ 12 from by omega) (fun r3 p3 => hQ3 _ ?_))
    have p3 : 0 ≤ r3 ∧ r3 ≤ 4 := p3
    refine And.intro rfl ?_
    exact hQ _ 
set_option maxHeartbeats 4000000 in
set_option maxRecDepth 100000 in
theorem sX10_asked {σ : xS} {what : Int} {Q : Option xV → xS → Prop} (hQ : ∀ r : Int, Q (some (xvi r)) σ) : xT kX10_asked [xvr 0, xvi what] σ Q := by
  refine ⟨Nat.le_of_ble_eq_true rfl, fun X hX => ?_⟩
  show X 0 [xvr 0, xvi what] σ
  refine hX 400 0 _ _ ?_
  have lp_19 : ∀ (_ : Unit), (True) → X 19 [xvr 0, xvi what] σ := by
    intro _ hv_19
    refine hX 400 19 _ _ ?_
    refine And.intro rfl ?_
    exact hQ _ 
  refine And.intro (fun c2 => ?_) (fun c2 => ?_)
  · exact lp_19 () (show True from by first | trivial | omega | (refine ⟨by assumption, ?_⟩; omega) | (refine ⟨?_, ?_⟩ <;> omega))
  · refine And.intro (fun c3 => ?_) (fun c3 => ?_)
    · exact lp_19 () (show True from by first | trivial | omega | (refine ⟨by assumption, ?_⟩; omega) | (refine ⟨?_, ?_⟩ <;> omega))
    · refine And.intro (rfl) (And.intro (⟨by omega, by omega⟩) ?_)
      intro v4 e4 l4 h4
      have e4 : v4 = σ 43 what.toNat := e4
      refine And.intro rfl ?_
      exact hQ _ 
set_option maxHeartbeats 4000000 in
set_option maxRecDepth 100000 in
theorem sX10_known {σ : xS} {p kind : Int} {Q : Option xV → xS → Prop} (hp0 : JG (xsel [2, 3, 4, 5, 6, 7, 8, 9, 10, 11, 12, 13, 14] σ)) (hQ : ∀ r : Int, Q (some (xvi r)) σ) : xT kX10_known [xvr 0, xvi p, xvi kind] σ Q := by
  refine ⟨Nat.le_of_ble_eq_true rfl, fun X hX => ?_⟩
  show X 0 [xvr 0, xvi p, xvi kind] σ
  refine hX 400 0 _ _ ?_
  have hb0 : 0 ≤ σ 2 0 ∧ σ 2 0 ≤ 13 := hp0.1.1.1
  have hb1 : 0 ≤ σ 2 1 ∧ σ 2 1 ≤ 6 := hp0.1.1.2.1
  have hb8 : 0 ≤ σ 2 8 ∧ σ 2 8 ≤ σ 2 9 ∧ σ 2 9 ≤ 52 := hp0.1.1.2.2.1
  have hb9 : 0 ≤ σ 11 2 ∧ σ 11 2 ≤ 52 := hp0.1.2.2.2
  have lp_37 : ∀ (_ : Unit), (True) → X 37 [xvr 0, xvi p, xvi kind] σ := by
    intro _ hv_37
    refine hX 400 37 _ _ ?_
    refine And.intro rfl ?_
    exact hQ _ 
  refine xMVp (sh := shB0) (ci := 2) (τ := [2, 3, 4, 5, 6, 7, 8, 9, 10, 11, 12, 13, 14]) (E := xT kX2_hasPerson) (t := 2) (r := [xvi p]) (σ := σ) rfl rfl xbk_sel (fun Q2 hQ2 => sX2_hasPerson (σ := xsel [2, 3, 4, 5, 6, 7, 8, 9, 10, 11, 12, 13, 14] σ) (p := p)  (fun r2 p2 => hQ2 _ ?_))
  have p2 : (r2 = 1 ∧ 0 ≤ p ∧ p < (σ 2 1)) ∨ (r2 = 0 ∧ (p < 0 ∨ (σ 2 1) ≤ p)) := p2
  refine And.intro (fun c3 => ?_) (fun c3 => ?_)
  · replace p2 : (p < 0 ∨ (σ 2 1) ≤ p) := by
      rcases p2 with q | q
      · exact absurd q.1 (by omega)
      · exact q.2
    exact lp_37 () (show True from by first | trivial | omega | (refine ⟨by assumption, ?_⟩; omega) | (refine ⟨?_, ?_⟩ <;> omega))
  · replace p2 : 0 ≤ p ∧ p < (σ 2 1) := by
      rcases p2 with q | q
      · exact q.2
      · exact absurd q.1 (by omega)
    refine xMVp (sh := shB0) (ci := 2) (τ := [2, 3, 4, 5, 6, 7, 8, 9, 10, 11, 12, 13, 14]) (E := xT kX2_hasKind) (t := 2) (r := [xvi kind]) (σ := σ) rfl rfl xbk_sel (fun Q4 hQ4 => sX2_hasKind (σ := xsel [2, 3, 4, 5, 6, 7, 8, 9, 10, 11, 12, 13, 14] σ) (kind := kind)  (fun r4 p4 => hQ4 _ ?_))
    have p4 : (r4 = 1 ∧ 0 ≤ kind ∧ kind < (σ 2 0)) ∨ (r4 = 0 ∧ (kind < 0 ∨ (σ 2 0) ≤ kind)) := p4
    refine And.intro (fun c5 => ?_) (fun c5 => ?_)
    · replace p4 : (kind < 0 ∨ (σ 2 0) ≤ kind) := by
        rcases p4 with q | q
        · exact absurd q.1 (by omega)
        · exact q.2
      exact lp_37 () (show True from by first | trivial | omega | (refine ⟨by assumption, ?_⟩; omega) | (refine ⟨?_, ?_⟩ <;> omega))
    · replace p4 : 0 ≤ kind ∧ kind < (σ 2 0) := by
        rcases p4 with q | q
        · exact q.2
        · exact absurd q.1 (by omega)
      refine xMVp (sh := shB0) (ci := 3) (τ := [2, 3, 4, 5, 6, 7, 8, 9, 10, 11, 12, 13, 14]) (E := xT kX3_sureOf) (t := 11) (r := [xvi p, xvi kind]) (σ := σ) rfl rfl xbk_sel (fun Q6 hQ6 => sX3_sureOf (σ := xsel [2, 3, 4, 5, 6, 7, 8, 9, 10, 11, 12, 13, 14] σ) (p := p) (kind := kind) (show 0 ≤ p ∧ p ≤ 5 from by omega) (show 0 ≤ kind ∧ kind ≤ 12 from by omega) (fun r6 p6 => hQ6 _ ?_))
      have p6 : r6 = σ 12 (13 * p + kind).toNat := p6
      refine And.intro rfl ?_
      exact hQ _ 
set_option maxHeartbeats 4000000 in
set_option maxRecDepth 100000 in
theorem sX10_can {σ : xS} {p kind : Int} {Q : Option xV → xS → Prop} (hp0 : JG (xsel [2, 3, 4, 5, 6, 7, 8, 9, 10, 11, 12, 13, 14] σ)) (hQ : ∀ r : Int, Q (some (xvi r)) σ) : xT kX10_can [xvr 0, xvi p, xvi kind] σ Q := by
  refine ⟨Nat.le_of_ble_eq_true rfl, fun X hX => ?_⟩
  show X 0 [xvr 0, xvi p, xvi kind] σ
  refine hX 400 0 _ _ ?_
  have hb0 : 0 ≤ σ 2 0 ∧ σ 2 0 ≤ 13 := hp0.1.1.1
  have hb1 : 0 ≤ σ 2 1 ∧ σ 2 1 ≤ 6 := hp0.1.1.2.1
  have hb8 : 0 ≤ σ 2 8 ∧ σ 2 8 ≤ σ 2 9 ∧ σ 2 9 ≤ 52 := hp0.1.1.2.2.1
  have hb9 : 0 ≤ σ 11 2 ∧ σ 11 2 ≤ 52 := hp0.1.2.2.2
  have lp_37 : ∀ (_ : Unit), (True) → X 37 [xvr 0, xvi p, xvi kind] σ := by
    intro _ hv_37
    refine hX 400 37 _ _ ?_
    refine And.intro rfl ?_
    exact hQ _ 
  refine xMVp (sh := shB0) (ci := 2) (τ := [2, 3, 4, 5, 6, 7, 8, 9, 10, 11, 12, 13, 14]) (E := xT kX2_hasPerson) (t := 2) (r := [xvi p]) (σ := σ) rfl rfl xbk_sel (fun Q2 hQ2 => sX2_hasPerson (σ := xsel [2, 3, 4, 5, 6, 7, 8, 9, 10, 11, 12, 13, 14] σ) (p := p)  (fun r2 p2 => hQ2 _ ?_))
  have p2 : (r2 = 1 ∧ 0 ≤ p ∧ p < (σ 2 1)) ∨ (r2 = 0 ∧ (p < 0 ∨ (σ 2 1) ≤ p)) := p2
  refine And.intro (fun c3 => ?_) (fun c3 => ?_)
  · replace p2 : (p < 0 ∨ (σ 2 1) ≤ p) := by
      rcases p2 with q | q
      · exact absurd q.1 (by omega)
      · exact q.2
    exact lp_37 () (show True from by first | trivial | omega | (refine ⟨by assumption, ?_⟩; omega) | (refine ⟨?_, ?_⟩ <;> omega))
  · replace p2 : 0 ≤ p ∧ p < (σ 2 1) := by
      rcases p2 with q | q
      · exact q.2
      · exact absurd q.1 (by omega)
    refine xMVp (sh := shB0) (ci := 2) (τ := [2, 3, 4, 5, 6, 7, 8, 9, 10, 11, 12, 13, 14]) (E := xT kX2_hasKind) (t := 2) (r := [xvi kind]) (σ := σ) rfl rfl xbk_sel (fun Q4 hQ4 => sX2_hasKind (σ := xsel [2, 3, 4, 5, 6, 7, 8, 9, 10, 11, 12, 13, 14] σ) (kind := kind)  (fun r4 p4 => hQ4 _ ?_))
    have p4 : (r4 = 1 ∧ 0 ≤ kind ∧ kind < (σ 2 0)) ∨ (r4 = 0 ∧ (kind < 0 ∨ (σ 2 0) ≤ kind)) := p4
    refine And.intro (fun c5 => ?_) (fun c5 => ?_)
    · replace p4 : (kind < 0 ∨ (σ 2 0) ≤ kind) := by
        rcases p4 with q | q
        · exact absurd q.1 (by omega)
        · exact q.2
      exact lp_37 () (show True from by first | trivial | omega | (refine ⟨by assumption, ?_⟩; omega) | (refine ⟨?_, ?_⟩ <;> omega))
    · replace p4 : 0 ≤ kind ∧ kind < (σ 2 0) := by
        rcases p4 with q | q
        · exact q.2
        · exact absurd q.1 (by omega)
      refine xMVp (sh := shB0) (ci := 3) (τ := [2, 3, 4, 5, 6, 7, 8, 9, 10, 11, 12, 13, 14]) (E := xT kX3_mayBe) (t := 11) (r := [xvi p, xvi kind]) (σ := σ) rfl rfl xbk_sel (fun Q6 hQ6 => sX3_mayBe (σ := xsel [2, 3, 4, 5, 6, 7, 8, 9, 10, 11, 12, 13, 14] σ) (p := p) (kind := kind) (show 0 ≤ (σ 11 2) ∧ (σ 11 2) ≤ 52 from by omega) (fun r6 => hQ6 _ ?_))
      refine And.intro rfl ?_
      exact hQ _ 
set_option maxHeartbeats 4000000 in
set_option maxRecDepth 100000 in
theorem sX10_swept {σ : xS} {i : Int} {Q : Option xV → xS → Prop} (hp0 : 0 ≤ σ 0 17 ∧ σ 0 17 ≤ 78) (hQ : ∀ r : Int, Q (some (xvi r)) σ) : xT kX10_swept [xvr 0, xvi i] σ Q := by
  refine ⟨Nat.le_of_ble_eq_true rfl, fun X hX => ?_⟩
  show X 0 [xvr 0, xvi i] σ
  refine hX 400 0 _ _ ?_
  have lp_21 : ∀ (_ : Unit), (True) → X 21 [xvr 0, xvi i] σ := by
    intro _ hv_21
    refine hX 400 21 _ _ ?_
    refine And.intro rfl ?_
    exact hQ _ 
  refine And.intro (fun c2 => ?_) (fun c2 => ?_)
  · exact lp_21 () (show True from by first | trivial | omega | (refine ⟨by assumption, ?_⟩; omega) | (refine ⟨?_, ?_⟩ <;> omega))
  · intro v3 e3 l3 h3
    have e3 : v3 = σ 0 17 := e3
    refine And.intro (fun c4 => ?_) (fun c4 => ?_)
    · exact lp_21 () (show True from by first | trivial | omega | (refine ⟨by assumption, ?_⟩; omega) | (refine ⟨?_, ?_⟩ <;> omega))
    · refine And.intro (rfl) (And.intro (⟨by omega, by omega⟩) ?_)
      intro v5 e5 l5 h5
      have e5 : v5 = σ 46 i.toNat := e5
      refine And.intro rfl ?_
      exact hQ _ 
set_option maxHeartbeats 4000000 in
set_option maxRecDepth 100000 in
theorem sX10_isRule {σ : xS} {rule : Int} {Q : Option xV → xS → Prop} (hQ : ∀ r : Int, ((r = 1 ∧ 0 ≤ rule ∧ rule < 4) ∨ (r = 0 ∧ (0 : Int) ≤ 0)) → Q (some (xvi r)) σ) : xT kX10_isRule [xvr 0, xvi rule] σ Q := by
  refine ⟨Nat.le_of_ble_eq_true rfl, fun X hX => ?_⟩
  show X 0 [xvr 0, xvi rule] σ
  refine hX 400 0 _ _ ?_
  have lp_13 : ∀ (_ : Unit), (True) → X 13 [xvr 0, xvi rule] σ := by
    intro _ hv_13
    refine hX 400 13 _ _ ?_
    refine And.intro rfl ?_
    refine And.intro (by omega) ?_
    exact hQ _ (show (0 = 1 ∧ 0 ≤ rule ∧ rule < 4) ∨ (0 = 0 ∧ (0 : Int) ≤ 0) from by first | trivial | omega)
  refine And.intro (fun c2 => ?_) (fun c2 => ?_)
  · exact lp_13 () (show True from by first | trivial | omega | (refine ⟨by assumption, ?_⟩; omega) | (refine ⟨?_, ?_⟩ <;> omega))
  · refine And.intro (fun c3 => ?_) (fun c3 => ?_)
    · exact lp_13 () (show True from by first | trivial | omega | (refine ⟨by assumption, ?_⟩; omega) | (refine ⟨?_, ?_⟩ <;> omega))
    · refine And.intro rfl ?_
      refine And.intro (by omega) ?_
      exact hQ _ (show (1 = 1 ∧ 0 ≤ rule ∧ rule < 4) ∨ (1 = 0 ∧ (0 : Int) ≤ 0) from by first | trivial | omega)
set_option maxHeartbeats 4000000 in
set_option maxRecDepth 100000 in
theorem sX10_bent {σ : xS} {p rule : Int} {Q : Option xV → xS → Prop} (hp0 : JG (xsel [2, 3, 4, 5, 6, 7, 8, 9, 10, 11, 12, 13, 14] σ)) (hQ : ∀ r : Int, Q (some (xvi r)) σ) : xT kX10_bent [xvr 0, xvi p, xvi rule] σ Q := by
  refine ⟨Nat.le_of_ble_eq_true rfl, fun X hX => ?_⟩
  show X 0 [xvr 0, xvi p, xvi rule] σ
  refine hX 400 0 _ _ ?_
  have hb0 : 0 ≤ σ 2 0 ∧ σ 2 0 ≤ 13 := hp0.1.1.1
  have hb1 : 0 ≤ σ 2 1 ∧ σ 2 1 ≤ 6 := hp0.1.1.2.1
  have hb8 : 0 ≤ σ 2 8 ∧ σ 2 8 ≤ σ 2 9 ∧ σ 2 9 ≤ 52 := hp0.1.1.2.2.1
  have hb9 : 0 ≤ σ 11 2 ∧ σ 11 2 ≤ 52 := hp0.1.2.2.2
  have lp_31 : ∀ (_ : Unit), (True) → X 31 [xvr 0, xvi p, xvi rule] σ := by
    intro _ hv_31
    refine hX 400 31 _ _ ?_
    refine And.intro rfl ?_
    exact hQ _ 
  refine xMVp (sh := shB0) (ci := 2) (τ := [2, 3, 4, 5, 6, 7, 8, 9, 10, 11, 12, 13, 14]) (E := xT kX2_hasPerson) (t := 2) (r := [xvi p]) (σ := σ) rfl rfl xbk_sel (fun Q2 hQ2 => sX2_hasPerson (σ := xsel [2, 3, 4, 5, 6, 7, 8, 9, 10, 11, 12, 13, 14] σ) (p := p)  (fun r2 p2 => hQ2 _ ?_))
  have p2 : (r2 = 1 ∧ 0 ≤ p ∧ p < (σ 2 1)) ∨ (r2 = 0 ∧ (p < 0 ∨ (σ 2 1) ≤ p)) := p2
  refine And.intro (fun c3 => ?_) (fun c3 => ?_)
  · replace p2 : (p < 0 ∨ (σ 2 1) ≤ p) := by
      rcases p2 with q | q
      · exact absurd q.1 (by omega)
      · exact q.2
    exact lp_31 () (show True from by first | trivial | omega | (refine ⟨by assumption, ?_⟩; omega) | (refine ⟨?_, ?_⟩ <;> omega))
  · replace p2 : 0 ≤ p ∧ p < (σ 2 1) := by
      rcases p2 with q | q
      · exact q.2
      · exact absurd q.1 (by omega)
    refine sX10_isRule (σ := σ) (rule := rule)  (fun r4 p4 => ?_)
    have p4 : (r4 = 1 ∧ 0 ≤ rule ∧ rule < 4) ∨ (r4 = 0 ∧ (0 : Int) ≤ 0) := p4
    refine And.intro (fun c5 => ?_) (fun c5 => ?_)
    · replace p4 : (0 : Int) ≤ 0 := by
        rcases p4 with q | q
        · exact absurd q.1 (by omega)
        · exact q.2
      exact lp_31 () (show True from by first | trivial | omega | (refine ⟨by assumption, ?_⟩; omega) | (refine ⟨?_, ?_⟩ <;> omega))
    · replace p4 : 0 ≤ rule ∧ rule < 4 := by
        rcases p4 with q | q
        · exact q.2
        · exact absurd q.1 (by omega)
      refine xMVp (sh := shB0) (ci := 2) (τ := [2, 3, 4, 5, 6, 7, 8, 9, 10, 11, 12, 13, 14]) (E := xT kX2_choice) (t := 2) (r := [xvi p, xvi rule]) (σ := σ) rfl rfl xbk_sel (fun Q6 hQ6 => sX2_choice (σ := xsel [2, 3, 4, 5, 6, 7, 8, 9, 10, 11, 12, 13, 14] σ) (p := p) (rule := rule) (show 0 ≤ (σ 2 0) ∧ (σ 2 0) ≤ 13 from by omega) (show 0 ≤ (σ 2 1) ∧ (σ 2 1) ≤ 6 from by omega) (show 0 ≤ p ∧ p ≤ 5 from by omega) (fun r6 p6 => hQ6 _ ?_))
      have p6 : r6 = -1 ∨ (0 ≤ r6 ∧ r6 / 100 ≤ 5 ∧ r6 % 100 ≤ 12) := p6
      refine And.intro rfl ?_
      exact hQ _ 
set_option maxHeartbeats 4000000 in
set_option maxRecDepth 100000 in
theorem sX10_heard {σ : xS} {what : Int} {Q : Option xV → xS → Prop} (hQ : ∀ r : Int, Q (some (xvi r)) σ) : xT kX10_heard [xvr 0, xvi what] σ Q := by
  refine ⟨Nat.le_of_ble_eq_true rfl, fun X hX => ?_⟩
  show X 0 [xvr 0, xvi what] σ
  refine hX 400 0 _ _ ?_
  have lp_22 : ∀ (_ : Unit), (True) → X 22 [xvr 0, xvi what] σ := by
    intro _ hv_22
    refine hX 400 22 _ _ ?_
    refine And.intro rfl ?_
    exact hQ _ 
  refine And.intro (fun c2 => ?_) (fun c2 => ?_)
  · exact lp_22 () (show True from by first | trivial | omega | (refine ⟨by assumption, ?_⟩; omega) | (refine ⟨?_, ?_⟩ <;> omega))
  · refine And.intro (Nat.le_of_ble_eq_true rfl) ?_
    refine And.intro (fun c3 => ?_) (fun c3 => ?_)
    · exact lp_22 () (show True from by first | trivial | omega | (refine ⟨by assumption, ?_⟩; omega) | (refine ⟨?_, ?_⟩ <;> omega))
    · refine And.intro (rfl) (And.intro (⟨by omega, by omega⟩) ?_)
      intro v4 e4 l4 h4
      have e4 : v4 = σ 45 what.toNat := e4
      refine And.intro rfl ?_
      exact hQ _ 
set_option maxHeartbeats 4000000 in
set_option maxRecDepth 100000 in
theorem sX10_count {σ : xS} {what : Int} {Q : Option xV → xS → Prop} (hQ : ∀ r : Int, Q (some (xvi r)) σ) : xT kX10_count [xvr 0, xvi what] σ Q := by
  refine ⟨Nat.le_of_ble_eq_true rfl, fun X hX => ?_⟩
  show X 0 [xvr 0, xvi what] σ
  refine hX 400 0 _ _ ?_
  refine And.intro (fun c1 => ?_) (And.intro rfl ?_)
  · refine And.intro rfl ?_
    exact hQ _ 
  refine And.intro (fun c1 => ?_) ?_
  · intro v2 e2 l2 h2
    have e2 : v2 = σ 2 0 := e2
    refine And.intro rfl ?_
    exact hQ _ 
  refine And.intro (fun c1 => ?_) ?_
  · intro v3 e3 l3 h3
    have e3 : v3 = σ 2 1 := e3
    refine And.intro rfl ?_
    exact hQ _ 
  refine And.intro (fun c1 => ?_) ?_
  · intro v4 e4 l4 h4
    have e4 : v4 = σ 2 2 := e4
    refine And.intro (fun c5 => ?_) (fun c5 => ?_)
    · refine And.intro rfl ?_
      exact hQ _ 
    · refine And.intro rfl ?_
      exact hQ _ 
  refine And.intro (fun c1 => ?_) ?_
  · intro v6 e6 l6 h6
    have e6 : v6 = σ 2 3 := e6
    refine And.intro rfl ?_
    exact hQ _ 
  refine And.intro (fun c1 => ?_) ?_
  · intro v7 e7 l7 h7
    have e7 : v7 = σ 0 1 := e7
    refine And.intro rfl ?_
    exact hQ _ 
  exact trivial
