/-- a game that a call left as it was -/
theorem JG.of {f g : xS} (h : JG f) (e0 : ∀ j, g 0 j = f 0 j) (e2 : g 2 = f 2) (e4 : g 4 = f 4) (e9 : g 9 2 = f 9 2) (e10 : g 10 = f 10) : JG g := by
  obtain ⟨⟨⟨a1, a2, a3, a4⟩, ⟨b1, b2⟩, c1, d1⟩, e1, e3⟩ := h
  refine ⟨⟨⟨?_, ?_, ?_, ?_⟩, ⟨?_, ?_⟩, ?_, ?_⟩, ?_, ?_⟩
  · rw [e0]; exact a1
  · rw [e0]; exact a2
  · rw [e0, e0]; exact a3
  · rw [e0, e4]; exact a4
  · rw [e2]; exact b1
  · rw [e2, e4, e0, e0]; exact b2
  · rw [e2, e10]; exact c1
  · rw [e9]; exact d1
  · rw [e0]; exact e1
  · rw [e0, e4, e0]; exact e3
theorem JG.fr2 {σ σ' : xS} {ts js : List Nat} (h : JG (xsel [2, 3, 4, 5, 6, 7, 8, 9, 10, 11, 12, 13, 14] σ)) (hF : Fr ts js σ σ') (hn : 2 ∉ ts ∧ 4 ∉ ts ∧ 6 ∉ ts ∧ 11 ∉ ts ∧ 12 ∉ ts) : JG (xsel [2, 3, 4, 5, 6, 7, 8, 9, 10, 11, 12, 13, 14] σ') :=
  h.of (fun j => congrFun (hF.1 2 (by decide) hn.1) j) (hF.1 4 (by decide) hn.2.1) (hF.1 6 (by decide) hn.2.2.1) (congrFun (hF.1 11 (by decide) hn.2.2.2.1) 2) (hF.1 12 (by decide) hn.2.2.2.2)
set_option maxHeartbeats 4000000 in
set_option maxRecDepth 100000 in
theorem sX10_sweepKind {σ : xS} {p kind : Int} {Q : Option xV → xS → Prop} (hp0 : JG (xsel [2, 3, 4, 5, 6, 7, 8, 9, 10, 11, 12, 13, 14] σ)) (hp1 : 0 ≤ σ 0 17 ∧ σ 0 17 ≤ 78) (hp2 : 0 ≤ p ∧ p ≤ 5) (hp3 : 0 ≤ kind ∧ kind ≤ 12) (hQ : ∀ σ' : xS, Fr [46] [17] σ σ' → (0 ≤ σ' 0 17 ∧ σ' 0 17 ≤ 78) → Q none σ') : xT kX10_sweepKind [xvr 0, xvi p, xvi kind] σ Q := by
  refine ⟨Nat.le_of_ble_eq_true rfl, fun X hX => ?_⟩
  show X 0 [xvr 0, xvi p, xvi kind, xvu] σ
  have hF : Fr [46] [17] σ σ := Fr.rf
  refine hX 400 0 _ _ ?_
  have hb0 : 0 ≤ σ 2 0 ∧ σ 2 0 ≤ 13 := hp0.1.1.1
  have hb1 : 0 ≤ σ 2 1 ∧ σ 2 1 ≤ 6 := hp0.1.1.2.1
  have hb8 : 0 ≤ σ 2 8 ∧ σ 2 8 ≤ σ 2 9 ∧ σ 2 9 ≤ 52 := hp0.1.1.2.2.1
  have hb9 : 0 ≤ σ 11 2 ∧ σ 11 2 ≤ 52 := hp0.1.2.2.2
  refine And.intro (Nat.le_of_ble_eq_true rfl) ?_
  show xw _ _ _ _ _ _ _ _ _ _ [xvr 0, xvi p, xvi kind, xvi 0] _ _
  have lp_2 : ∀ (m2 : Nat) (q : Int) (s1 : xS), ((6 - q).toNat) = m2 → (Fr [46] [17] σ s1 ∧ (0 ≤ s1 0 17 ∧ s1 0 17 ≤ 78) ∧ 0 ≤ q) → X 2 [xvr 0, xvi p, xvi kind, xvi q] s1 := by
    intro m2
    induction m2 using Nat.strongRecOn with
    | _ m2 ih_2 =>
    intro q s1 hm_2 hv_2
    obtain ⟨hF, h1s, hv_2⟩ := hv_2
    have k21 : s1 2 1 = σ 2 1 := congrFun (hF.1 2 (by decide) (by decide)) 1
    refine hX 400 2 _ _ ?_
    intro v2 e2 l2 h2
    have e2 : v2 = s1 2 1 := e2
    refine And.intro (fun c3 => ?_) (fun c3 => ?_)
    · refine And.intro rfl (And.intro rfl ?_)
      exact hQ _ hF (show 0 ≤ (s1 0 17) ∧ (s1 0 17) ≤ 78 from by first | trivial | omega)
    · have lp_67 : ∀ (s2 : xS), (Fr [46] [17] σ s2 ∧ (0 ≤ s2 0 17 ∧ s2 0 17 ≤ 78)) → X 67 [xvr 0, xvi p, xvi kind, xvi q] s2 := by
        intro s2 hv_67
        obtain ⟨hF, h2s⟩ := hv_67
        refine hX 400 67 _ _ ?_
        intro z5 t5 e5 l5 h5
        try have w5 : t5 = 0 := by omega
        show xw _ _ _ _ _ _ _ _ _ _ [xvr 0, xvi p, xvi kind, xvi z5] _ _
        exact ih_2 _ (show (6 - z5).toNat < m2 from by omega) z5 s2 rfl ⟨hF, (show 0 ≤ s2 0 17 ∧ s2 0 17 ≤ 78 from by omega), by omega⟩
      refine And.intro (fun c6 => ?_) (fun c6 => ?_)
      · exact lp_67 s1 ⟨hF, (show 0 ≤ s1 0 17 ∧ s1 0 17 ≤ 78 from by omega)⟩
      · refine xMVp (sh := shB0) (ci := 2) (τ := [2, 3, 4, 5, 6, 7, 8, 9, 10, 11, 12, 13, 14]) (E := xT kX2_held) (t := 2) (r := [xvi q, xvi kind]) (σ := s1) rfl rfl xbk_sel (fun Q7 hQ7 => sX2_held (σ := xsel [2, 3, 4, 5, 6, 7, 8, 9, 10, 11, 12, 13, 14] s1) (p := q) (kind := kind) (show 0 ≤ q ∧ q ≤ 5 from by omega) (show 0 ≤ kind ∧ kind ≤ 12 from by omega) (fun r7 p7 => hQ7 _ ?_))
        have p7 : r7 = s1 4 (13 * q + kind).toNat := p7
        refine And.intro (fun c8 => ?_) (fun c8 => ?_)
        · exact lp_67 s1 ⟨hF, (show 0 ≤ s1 0 17 ∧ s1 0 17 ≤ 78 from by omega)⟩
        · intro v9 e9 l9 h9
          have e9 : v9 = s1 0 17 := e9
          refine And.intro (Nat.le_of_ble_eq_true rfl) ?_
          refine And.intro (fun c10 => ?_) (fun c10 => ?_)
          · exact lp_67 s1 ⟨hF, (show 0 ≤ s1 0 17 ∧ s1 0 17 ≤ 78 from by omega)⟩
          · intro v11 e11 l11 h11
            have e11 : v11 = s1 0 17 := e11
            intro z12 t12 e12 l12 h12
            try have w12 : t12 = 0 := by omega
            intro z13 t13 e13 l13 h13
            try have w13 : t13 = 0 := by omega
            refine And.intro (rfl) (And.intro (⟨by omega, by omega⟩) ?_)
            have hF := hF.pt (t := 46) (j := v11.toNat) (v := z13) (by decide) (by decide)
            intro v15 e15 l15 h15
            have e15 : v15 = s1 0 17 := e15
            intro z16 t16 e16 l16 h16
            try have w16 : t16 = 0 := by omega
            have hF := hF.p (j := 17) (v := z16) (by decide)
            exact lp_67 (xput (xput s1 46 v11.toNat z13) 0 17 z16) ⟨hF, (show 0 ≤ z16 ∧ z16 ≤ 78 from by omega)⟩
  exact lp_2 _ 0 σ rfl ⟨hF, (show 0 ≤ σ 0 17 ∧ σ 0 17 ≤ 78 from by omega), by omega⟩
set_option maxHeartbeats 4000000 in
set_option maxRecDepth 100000 in
theorem sX10_sweep {σ : xS} {p : Int} {Q : Option xV → xS → Prop} (hp0 : JG (xsel [2, 3, 4, 5, 6, 7, 8, 9, 10, 11, 12, 13, 14] σ)) (hp1 : 0 ≤ σ 0 17 ∧ σ 0 17 ≤ 78) (hQ : ∀ r : Int, ∀ σ' : xS, Fr [46] [17] σ σ' → ((0 ≤ σ' 0 17 ∧ σ' 0 17 ≤ 78)) → Q (some (xvi r)) σ') : xT kX10_sweep [xvr 0, xvi p] σ Q := by
  refine ⟨Nat.le_of_ble_eq_true rfl, fun X hX => ?_⟩
  show X 0 [xvr 0, xvi p, xvu] σ
  have hF : Fr [46] [17] σ σ := Fr.rf
  refine hX 400 0 _ _ ?_
  have hb0 : 0 ≤ σ 2 0 ∧ σ 2 0 ≤ 13 := hp0.1.1.1
  have hb1 : 0 ≤ σ 2 1 ∧ σ 2 1 ≤ 6 := hp0.1.1.2.1
  have hb8 : 0 ≤ σ 2 8 ∧ σ 2 8 ≤ σ 2 9 ∧ σ 2 9 ≤ 52 := hp0.1.1.2.2.1
  have hb9 : 0 ≤ σ 11 2 ∧ σ 11 2 ≤ 52 := hp0.1.2.2.2
  refine xMVp (sh := shB0) (ci := 2) (τ := [2, 3, 4, 5, 6, 7, 8, 9, 10, 11, 12, 13, 14]) (E := xT kX2_hasPerson) (t := 2) (r := [xvi p]) (σ := σ) rfl rfl xbk_sel (fun Q1 hQ1 => sX2_hasPerson (σ := xsel [2, 3, 4, 5, 6, 7, 8, 9, 10, 11, 12, 13, 14] σ) (p := p)  (fun r1 p1 => hQ1 _ ?_))
  have p1 : (r1 = 1 ∧ 0 ≤ p ∧ p < (σ 2 1)) ∨ (r1 = 0 ∧ (p < 0 ∨ (σ 2 1) ≤ p)) := p1
  refine And.intro (fun c2 => ?_) (fun c2 => ?_)
  · replace p1 : 0 ≤ p ∧ p < (σ 2 1) := by
      rcases p1 with q | q
      · exact q.2
      · exact absurd q.1 (by omega)
    have hF := hF.p (j := 17) (v := 0) (by decide)
    refine And.intro (Nat.le_of_ble_eq_true rfl) ?_
    show xw _ _ _ _ _ _ _ _ _ _ [xvr 0, xvi p, xvi 0] _ _
    have lp_20 : ∀ (m20 : Nat) (kind : Int) (s1 : xS), ((13 - kind).toNat) = m20 → (Fr [46] [17] σ s1 ∧ (0 ≤ s1 0 17 ∧ s1 0 17 ≤ 78) ∧ 0 ≤ kind) → X 20 [xvr 0, xvi p, xvi kind] s1 := by
      intro m20
      induction m20 using Nat.strongRecOn with
      | _ m20 ih_20 =>
      intro kind s1 hm_20 hv_20
      obtain ⟨hF, h1s, hv_20⟩ := hv_20
      have k20 : s1 2 0 = σ 2 0 := congrFun (hF.1 2 (by decide) (by decide)) 0
      have hJ : JG (xsel [2, 3, 4, 5, 6, 7, 8, 9, 10, 11, 12, 13, 14] s1) := hp0.fr2 hF (by decide)
      refine hX 400 20 _ _ ?_
      intro v5 e5 l5 h5
      have e5 : v5 = s1 2 0 := e5
      refine And.intro (fun c6 => ?_) (fun c6 => ?_)
      · intro v7 e7 l7 h7
        have e7 : v7 = s1 0 17 := e7
        refine And.intro rfl ?_
        exact hQ _ _ hF (show (0 ≤ (s1 0 17) ∧ (s1 0 17) ≤ 78) from by first | trivial | omega)
      · have lp_49 : ∀ (s2 : xS), (Fr [46] [17] σ s2 ∧ (0 ≤ s2 0 17 ∧ s2 0 17 ≤ 78)) → X 49 [xvr 0, xvi p, xvi kind] s2 := by
          intro s2 hv_49
          obtain ⟨hF, h2s⟩ := hv_49
          refine hX 400 49 _ _ ?_
          intro z9 t9 e9 l9 h9
          try have w9 : t9 = 0 := by omega
          show xw _ _ _ _ _ _ _ _ _ _ [xvr 0, xvi p, xvi z9] _ _
          exact ih_20 _ (show (13 - z9).toNat < m20 from by omega) z9 s2 rfl ⟨hF, (show 0 ≤ s2 0 17 ∧ s2 0 17 ≤ 78 from by omega), by omega⟩
        refine xMVp (sh := shB0) (ci := 2) (τ := [2, 3, 4, 5, 6, 7, 8, 9, 10, 11, 12, 13, 14]) (E := xT kX2_held) (t := 2) (r := [xvi p, xvi kind]) (σ := s1) rfl rfl xbk_sel (fun Q10 hQ10 => sX2_held (σ := xsel [2, 3, 4, 5, 6, 7, 8, 9, 10, 11, 12, 13, 14] s1) (p := p) (kind := kind) (show 0 ≤ p ∧ p ≤ 5 from by omega) (show 0 ≤ kind ∧ kind ≤ 12 from by omega) (fun r10 p10 => hQ10 _ ?_))
        have p10 : r10 = s1 4 (13 * p + kind).toNat := p10
        refine And.intro (fun c11 => ?_) (fun c11 => ?_)
        · exact lp_49 s1 ⟨hF, (show 0 ≤ s1 0 17 ∧ s1 0 17 ≤ 78 from by omega)⟩
        · refine sX10_sweepKind (σ := s1) (p := p) (kind := kind) (show JG (xsel [2, 3, 4, 5, 6, 7, 8, 9, 10, 11, 12, 13, 14] s1) from hJ) (show 0 ≤ (s1 0 17) ∧ (s1 0 17) ≤ 78 from by omega) (show 0 ≤ p ∧ p ≤ 5 from by omega) (show 0 ≤ kind ∧ kind ≤ 12 from by omega) (fun σ12 f12 p12 => ?_)
          have hF := hF.tr f12 (by decide) (by decide)
          have p12 : 0 ≤ σ12 0 17 ∧ σ12 0 17 ≤ 78 := p12
          exact lp_49 σ12 ⟨hF, (show 0 ≤ σ12 0 17 ∧ σ12 0 17 ≤ 78 from by omega)⟩
    exact lp_20 _ 0 (xput σ 0 17 0) rfl ⟨hF, (show 0 ≤ 0 ∧ 0 ≤ 78 from by omega), by omega⟩
  · replace p1 : (p < 0 ∨ (σ 2 1) ≤ p) := by
      rcases p1 with q | q
      · exact absurd q.1 (by omega)
      · exact q.2
    refine And.intro rfl ?_
    exact hQ _ _ hF (show (0 ≤ (σ 0 17) ∧ (σ 0 17) ≤ 78) from by first | trivial | omega)
set_option maxHeartbeats 4000000 in
set_option maxRecDepth 100000 in
theorem sX10_gains {σ : xS} {p : Int} {Q : Option xV → xS → Prop} (hp0 : JG (xsel [2, 3, 4, 5, 6, 7, 8, 9, 10, 11, 12, 13, 14] σ)) (hQ : ∀ r : Int, Q (some (xvi r)) σ) : xT kX10_gains [xvr 0, xvi p] σ Q := by
  refine ⟨Nat.le_of_ble_eq_true rfl, fun X hX => ?_⟩
  show X 0 [xvr 0, xvi p, xvu, xvu] σ
  refine hX 400 0 _ _ ?_
  have hb0 : 0 ≤ σ 2 0 ∧ σ 2 0 ≤ 13 := hp0.1.1.1
  have hb1 : 0 ≤ σ 2 1 ∧ σ 2 1 ≤ 6 := hp0.1.1.2.1
  have hb8 : 0 ≤ σ 2 8 ∧ σ 2 8 ≤ σ 2 9 ∧ σ 2 9 ≤ 52 := hp0.1.1.2.2.1
  have hb9 : 0 ≤ σ 11 2 ∧ σ 11 2 ≤ 52 := hp0.1.2.2.2
  refine xMVp (sh := shB0) (ci := 2) (τ := [2, 3, 4, 5, 6, 7, 8, 9, 10, 11, 12, 13, 14]) (E := xT kX2_hasPerson) (t := 2) (r := [xvi p]) (σ := σ) rfl rfl xbk_sel (fun Q1 hQ1 => sX2_hasPerson (σ := xsel [2, 3, 4, 5, 6, 7, 8, 9, 10, 11, 12, 13, 14] σ) (p := p)  (fun r1 p1 => hQ1 _ ?_))
  have p1 : (r1 = 1 ∧ 0 ≤ p ∧ p < (σ 2 1)) ∨ (r1 = 0 ∧ (p < 0 ∨ (σ 2 1) ≤ p)) := p1
  refine And.intro (fun c2 => ?_) (fun c2 => ?_)
  · replace p1 : 0 ≤ p ∧ p < (σ 2 1) := by
      rcases p1 with q | q
      · exact q.2
      · exact absurd q.1 (by omega)
    refine xMVp (sh := shB0) (ci := 2) (τ := [2, 3, 4, 5, 6, 7, 8, 9, 10, 11, 12, 13, 14]) (E := xT kX2_booksOf) (t := 2) (r := [xvi p]) (σ := σ) rfl rfl xbk_sel (fun Q3 hQ3 => sX2_booksOf (σ := xsel [2, 3, 4, 5, 6, 7, 8, 9, 10, 11, 12, 13, 14] σ) (p := p) (show 0 ≤ (σ 2 0) ∧ (σ 2 0) ≤ 13 from by omega) (fun r3 p3 => hQ3 _ ?_))
    have p3 : 0 ≤ r3 ∧ r3 ≤ 13 := p3
    refine And.intro (Nat.le_of_ble_eq_true rfl) ?_
    show xw _ _ _ _ _ _ _ _ _ _ [xvr 0, xvi p, xvi r3, xvu] _ _
    refine And.intro (Nat.le_of_ble_eq_true rfl) ?_
    show xw _ _ _ _ _ _ _ _ _ _ [xvr 0, xvi p, xvi r3, xvi 0] _ _
    have lp_24 : ∀ (m24 : Nat) (books : Int) (kind : Int), ((13 - kind).toNat) = m24 → (0 ≤ kind) → X 24 [xvr 0, xvi p, xvi books, xvi kind] σ := by
      intro m24
      induction m24 using Nat.strongRecOn with
      | _ m24 ih_24 =>
      intro books kind hm_24 hv_24
      refine hX 400 24 _ _ ?_
      intro v5 e5 l5 h5
      have e5 : v5 = σ 2 0 := e5
      refine And.intro (fun c6 => ?_) (fun c6 => ?_)
      · refine And.intro rfl ?_
        exact hQ _ 
      · have lp_62 : ∀ (books2 : Int), (True) → X 62 [xvr 0, xvi p, xvi books2, xvi kind] σ := by
          intro books2 hv_62
          refine hX 400 62 _ _ ?_
          intro z8 t8 e8 l8 h8
          try have w8 : t8 = 0 := by omega
          show xw _ _ _ _ _ _ _ _ _ _ [xvr 0, xvi p, xvi books2, xvi z8] _ _
          exact ih_24 _ (show (13 - z8).toNat < m24 from by omega) books2 z8 rfl (show 0 ≤ z8 from by first | trivial | omega | (refine ⟨by assumption, ?_⟩; omega) | (refine ⟨?_, ?_⟩ <;> omega))
        refine xMVp (sh := shB0) (ci := 2) (τ := [2, 3, 4, 5, 6, 7, 8, 9, 10, 11, 12, 13, 14]) (E := xT kX2_held) (t := 2) (r := [xvi p, xvi kind]) (σ := σ) rfl rfl xbk_sel (fun Q9 hQ9 => sX2_held (σ := xsel [2, 3, 4, 5, 6, 7, 8, 9, 10, 11, 12, 13, 14] σ) (p := p) (kind := kind) (show 0 ≤ p ∧ p ≤ 5 from by omega) (show 0 ≤ kind ∧ kind ≤ 12 from by omega) (fun r9 p9 => hQ9 _ ?_))
        have p9 : r9 = σ 4 (13 * p + kind).toNat := p9
        refine And.intro (fun c10 => ?_) (fun c10 => ?_)
        · exact lp_62 books (show True from by first | trivial | omega | (refine ⟨by assumption, ?_⟩; omega) | (refine ⟨?_, ?_⟩ <;> omega))
        · refine xMVp (sh := shB0) (ci := 2) (τ := [2, 3, 4, 5, 6, 7, 8, 9, 10, 11, 12, 13, 14]) (E := xT kX2_inHands) (t := 2) (r := [xvi kind]) (σ := σ) rfl rfl xbk_sel (fun Q11 hQ11 => sX2_inHands (σ := xsel [2, 3, 4, 5, 6, 7, 8, 9, 10, 11, 12, 13, 14] σ) (kind := kind) (show 0 ≤ (σ 2 1) ∧ (σ 2 1) ≤ 6 from by omega) (show ∀ p k, p < 6 → k < 13 → 0 ≤ σ 4 (13 * p + k) ∧ σ 4 (13 * p + k) ≤ 4 from fun p k hp hk => hp0.1.2.1.1.h4 hp0.1.2.1.2 hp hk) (show 0 ≤ kind ∧ kind ≤ 12 from by omega) (fun r11 p11 => hQ11 _ ?_))
          have p11 : 0 ≤ r11 ∧ r11 ≤ sm 6 (fun p => σ 4 (13 * p + kind.toNat)) := p11
          refine And.intro (fun c12 => ?_) (fun c12 => ?_)
          · exact lp_62 books (show True from by first | trivial | omega | (refine ⟨by assumption, ?_⟩; omega) | (refine ⟨?_, ?_⟩ <;> omega))
          · intro z13 t13 e13 l13 h13
            try have w13 : t13 = 0 := by omega
            show xw _ _ _ _ _ _ _ _ _ _ [xvr 0, xvi p, xvi z13, xvi kind] _ _
            exact lp_62 z13 (show True from by first | trivial | omega | (refine ⟨by assumption, ?_⟩; omega) | (refine ⟨?_, ?_⟩ <;> omega))
    exact lp_24 _ r3 0 rfl (show 0 ≤ 0 from by first | trivial | omega | (refine ⟨by assumption, ?_⟩; omega) | (refine ⟨?_, ?_⟩ <;> omega))
  · replace p1 : (p < 0 ∨ (σ 2 1) ≤ p) := by
      rcases p1 with q | q
      · exact absurd q.1 (by omega)
      · exact q.2
    refine And.intro rfl ?_
    exact hQ _ 
set_option maxHeartbeats 4000000 in
set_option maxRecDepth 100000 in
theorem sX10_leader {σ : xS} {Q : Option xV → xS → Prop} (hp0 : JG (xsel [2, 3, 4, 5, 6, 7, 8, 9, 10, 11, 12, 13, 14] σ)) (hQ : ∀ r : Int, Q (some (xvi r)) σ) : xT kX10_leader [xvr 0] σ Q := by
  refine ⟨Nat.le_of_ble_eq_true rfl, fun X hX => ?_⟩
  show X 0 [xvr 0, xvu, xvu, xvu, xvu] σ
  refine hX 400 0 _ _ ?_
  have hb0 : 0 ≤ σ 2 0 ∧ σ 2 0 ≤ 13 := hp0.1.1.1
  have hb1 : 0 ≤ σ 2 1 ∧ σ 2 1 ≤ 6 := hp0.1.1.2.1
  have hb8 : 0 ≤ σ 2 8 ∧ σ 2 8 ≤ σ 2 9 ∧ σ 2 9 ≤ 52 := hp0.1.1.2.2.1
  have hb9 : 0 ≤ σ 11 2 ∧ σ 11 2 ≤ 52 := hp0.1.2.2.2
  refine And.intro (Nat.le_of_ble_eq_true rfl) ?_
  show xw _ _ _ _ _ _ _ _ _ _ [xvr 0, xvi (-1), xvu, xvu, xvu] _ _
  refine And.intro (Nat.le_of_ble_eq_true rfl) ?_
  show xw _ _ _ _ _ _ _ _ _ _ [xvr 0, xvi (-1), xvi (-1), xvu, xvu] _ _
  refine And.intro (Nat.le_of_ble_eq_true rfl) ?_
  show xw _ _ _ _ _ _ _ _ _ _ [xvr 0, xvi (-1), xvi (-1), xvi 0, xvu] _ _
  have lp_6 : ∀ (m6 : Nat) (best : Int) (most : Int) (p : Int) (u1_4 : xV), ((6 - p).toNat) = m6 → (0 ≤ p) → X 6 [xvr 0, xvi best, xvi most, xvi p, u1_4] σ := by
    intro m6
    induction m6 using Nat.strongRecOn with
    | _ m6 ih_6 =>
    intro best most p u1_4 hm_6 hv_6
    refine hX 400 6 _ _ ?_
    intro v2 e2 l2 h2
    have e2 : v2 = σ 2 1 := e2
    refine And.intro (fun c3 => ?_) (fun c3 => ?_)
    · refine And.intro rfl ?_
      exact hQ _ 
    · have lp_38 : ∀ (best2 : Int) (most2 : Int) (u4_4 : xV), (True) → X 38 [xvr 0, xvi best2, xvi most2, xvi p, u4_4] σ := by
        intro best2 most2 u4_4 hv_38
        refine hX 400 38 _ _ ?_
        intro z5 t5 e5 l5 h5
        try have w5 : t5 = 0 := by omega
        show xw _ _ _ _ _ _ _ _ _ _ [xvr 0, xvi best2, xvi most2, xvi z5, u4_4] _ _
        exact ih_6 _ (show (6 - z5).toNat < m6 from by omega) best2 most2 z5 (u4_4) rfl (show 0 ≤ z5 from by first | trivial | omega | (refine ⟨by assumption, ?_⟩; omega) | (refine ⟨?_, ?_⟩ <;> omega))
      refine xMVp (sh := shB0) (ci := 2) (τ := [2, 3, 4, 5, 6, 7, 8, 9, 10, 11, 12, 13, 14]) (E := xT kX2_booksOf) (t := 2) (r := [xvi p]) (σ := σ) rfl rfl xbk_sel (fun Q6 hQ6 => sX2_booksOf (σ := xsel [2, 3, 4, 5, 6, 7, 8, 9, 10, 11, 12, 13, 14] σ) (p := p) (show 0 ≤ (σ 2 0) ∧ (σ 2 0) ≤ 13 from by omega) (fun r6 p6 => hQ6 _ ?_))
      have p6 : 0 ≤ r6 ∧ r6 ≤ 13 := p6
      refine And.intro (Nat.le_of_ble_eq_true rfl) ?_
      show xw _ _ _ _ _ _ _ _ _ _ [xvr 0, xvi best, xvi most, xvi p, xvi r6] _ _
      refine And.intro (fun c7 => ?_) (fun c7 => ?_)
      · exact lp_38 best most (xvi r6) (show True from by first | trivial | omega | (refine ⟨by assumption, ?_⟩; omega) | (refine ⟨?_, ?_⟩ <;> omega))
      · refine And.intro (Nat.le_of_ble_eq_true rfl) ?_
        show xw _ _ _ _ _ _ _ _ _ _ [xvr 0, xvi best, xvi r6, xvi p, xvi r6] _ _
        refine And.intro (Nat.le_of_ble_eq_true rfl) ?_
        show xw _ _ _ _ _ _ _ _ _ _ [xvr 0, xvi p, xvi r6, xvi p, xvi r6] _ _
        exact lp_38 p r6 (xvi r6) (show True from by first | trivial | omega | (refine ⟨by assumption, ?_⟩; omega) | (refine ⟨?_, ?_⟩ <;> omega))
  exact lp_6 _ (-1) (-1) 0 (xvu) rfl (show 0 ≤ 0 from by first | trivial | omega | (refine ⟨by assumption, ?_⟩; omega) | (refine ⟨?_, ?_⟩ <;> omega))
set_option maxHeartbeats 4000000 in
set_option maxRecDepth 100000 in
theorem sX10_said {σ : xS} {k : Int} {Q : Option xV → xS → Prop} (hp0 : JG (xsel [2, 3, 4, 5, 6, 7, 8, 9, 10, 11, 12, 13, 14] σ)) (hp1 : 0 ≤ σ 28 1 ∧ σ 28 1 ≤ 40) (hQ : ∀ r : Int, Q (some (xvi r)) σ) : xT kX10_said [xvr 0, xvi k] σ Q := by
  refine ⟨Nat.le_of_ble_eq_true rfl, fun X hX => ?_⟩
  show X 0 [xvr 0, xvi k, xvu, xvu] σ
  refine hX 400 0 _ _ ?_
  have hb0 : 0 ≤ σ 2 0 ∧ σ 2 0 ≤ 13 := hp0.1.1.1
  have hb1 : 0 ≤ σ 2 1 ∧ σ 2 1 ≤ 6 := hp0.1.1.2.1
  have hb8 : 0 ≤ σ 2 8 ∧ σ 2 8 ≤ σ 2 9 ∧ σ 2 9 ≤ 52 := hp0.1.1.2.2.1
  have hb9 : 0 ≤ σ 11 2 ∧ σ 11 2 ≤ 52 := hp0.1.2.2.2
  have lp_15 : ∀ (_ : Unit), (True) → X 15 [xvr 0, xvi k, xvu, xvu] σ := by
    intro _ hv_15
    refine hX 400 15 _ _ ?_
    refine And.intro rfl ?_
    exact hQ _ 
  intro v2 e2 l2 h2
  have e2 : v2 = σ 28 1 := e2
  refine And.intro (fun c3 => ?_) (fun c3 => ?_)
  · exact lp_15 () (show True from by first | trivial | omega | (refine ⟨by assumption, ?_⟩; omega) | (refine ⟨?_, ?_⟩ <;> omega))
  · refine And.intro (fun c4 => ?_) (fun c4 => ?_)
    · refine And.intro (Nat.le_of_ble_eq_true rfl) ?_
      show xw _ _ _ _ _ _ _ _ _ _ [xvr 0, xvi k, xvi 0, xvu] _ _
      refine And.intro (Nat.le_of_ble_eq_true rfl) ?_
      show xw _ _ _ _ _ _ _ _ _ _ [xvr 0, xvi k, xvi 0, xvi 0] _ _
      have lp_21 : ∀ (m21 : Nat) (found : Int) (kind : Int), ((13 - kind).toNat) = m21 → (0 ≤ kind) → X 21 [xvr 0, xvi k, xvi found, xvi kind] σ := by
        intro m21
        induction m21 using Nat.strongRecOn with
        | _ m21 ih_21 =>
        intro found kind hm_21 hv_21
        refine hX 400 21 _ _ ?_
        intro v6 e6 l6 h6
        have e6 : v6 = σ 2 0 := e6
        refine And.intro (fun c7 => ?_) (fun c7 => ?_)
        · refine And.intro (fun c8 => ?_) (fun c8 => ?_)
          · refine And.intro rfl ?_
            exact hQ _ 
          · refine And.intro rfl ?_
            exact hQ _ 
        · have lp_57 : ∀ (found2 : Int), (True) → X 57 [xvr 0, xvi k, xvi found2, xvi kind] σ := by
            intro found2 hv_57
            refine hX 400 57 _ _ ?_
            intro z10 t10 e10 l10 h10
            try have w10 : t10 = 0 := by omega
            show xw _ _ _ _ _ _ _ _ _ _ [xvr 0, xvi k, xvi found2, xvi z10] _ _
            exact ih_21 _ (show (13 - z10).toNat < m21 from by omega) found2 z10 rfl (show 0 ≤ z10 from by first | trivial | omega | (refine ⟨by assumption, ?_⟩; omega) | (refine ⟨?_, ?_⟩ <;> omega))
          refine xMVp (sh := shB0) (ci := 7) (τ := [28, 29, 2, 3, 4, 5, 6, 7, 8, 9, 10, 11, 12, 13, 14]) (E := xT kX7_holdsFor) (t := 28) (r := [xvr 2, xvi kind]) (σ := σ) rfl rfl xbk_sel (fun Q11 hQ11 => sX7_holdsFor (σ := xsel [28, 29, 2, 3, 4, 5, 6, 7, 8, 9, 10, 11, 12, 13, 14] σ) (kind := kind) (show 0 ≤ (σ 28 1) ∧ (σ 28 1) ≤ 40 from by omega) (show CG (xsel [2, 3, 4, 5, 6, 7, 8, 9, 10, 11, 12, 13, 14] (xsel [28, 29, 2, 3, 4, 5, 6, 7, 8, 9, 10, 11, 12, 13, 14] σ)) from by exact hp0.1) (show 0 ≤ kind ∧ kind ≤ 12 from by omega) (fun r11 p11 => hQ11 _ ?_))
          have p11 : r11 = 0 ∨ r11 = 1 := p11
          refine And.intro (fun c12 => ?_) (fun c12 => ?_)
          · exact lp_57 found (show True from by first | trivial | omega | (refine ⟨by assumption, ?_⟩; omega) | (refine ⟨?_, ?_⟩ <;> omega))
          · refine And.intro (fun c13 => ?_) (fun c13 => ?_)
            · intro z14 t14 e14 l14 h14
              try have w14 : t14 = 0 := by omega
              show xw _ _ _ _ _ _ _ _ _ _ [xvr 0, xvi k, xvi z14, xvi kind] _ _
              exact lp_57 z14 (show True from by first | trivial | omega | (refine ⟨by assumption, ?_⟩; omega) | (refine ⟨?_, ?_⟩ <;> omega))
            · refine And.intro rfl ?_
              exact hQ _ 
      exact lp_21 _ 0 0 rfl (show 0 ≤ 0 from by first | trivial | omega | (refine ⟨by assumption, ?_⟩; omega) | (refine ⟨?_, ?_⟩ <;> omega))
    · exact lp_15 () (show True from by first | trivial | omega | (refine ⟨by assumption, ?_⟩; omega) | (refine ⟨?_, ?_⟩ <;> omega))
set_option maxHeartbeats 4000000 in
set_option maxRecDepth 100000 in
theorem sX10_hasRulesOnTape {σ : xS} {Q : Option xV → xS → Prop} (hp0 : JG (xsel [2, 3, 4, 5, 6, 7, 8, 9, 10, 11, 12, 13, 14] σ)) (hp1 : 0 ≤ σ 0 1 ∧ σ 0 1 ≤ 940) (hQ : ∀ r : Int, ((r = 1 ∧ σ 0 1 = σ 2 1) ∨ (r = 0 ∧ (0 : Int) ≤ 0)) → Q (some (xvi r)) σ) : xT kX10_hasRulesOnTape [xvr 0] σ Q := by
  refine ⟨Nat.le_of_ble_eq_true rfl, fun X hX => ?_⟩
  show X 0 [xvr 0, xvu] σ
  refine hX 400 0 _ _ ?_
  have hb0 : 0 ≤ σ 2 0 ∧ σ 2 0 ≤ 13 := hp0.1.1.1
  have hb1 : 0 ≤ σ 2 1 ∧ σ 2 1 ≤ 6 := hp0.1.1.2.1
  have hb8 : 0 ≤ σ 2 8 ∧ σ 2 8 ≤ σ 2 9 ∧ σ 2 9 ≤ 52 := hp0.1.1.2.2.1
  have hb9 : 0 ≤ σ 11 2 ∧ σ 11 2 ≤ 52 := hp0.1.2.2.2
  have lp_24 : ∀ (_ : Unit), (True) → X 24 [xvr 0, xvu] σ := by
    intro _ hv_24
    refine hX 400 24 _ _ ?_
    refine And.intro rfl ?_
    refine And.intro (by omega) ?_
    exact hQ _ (show (0 = 1 ∧ σ 0 1 = σ 2 1) ∨ (0 = 0 ∧ (0 : Int) ≤ 0) from by first | trivial | omega)
  intro v2 e2 l2 h2
  have e2 : v2 = σ 2 1 := e2
  refine And.intro (fun c3 => ?_) (fun c3 => ?_)
  · exact lp_24 () (show True from by first | trivial | omega | (refine ⟨by assumption, ?_⟩; omega) | (refine ⟨?_, ?_⟩ <;> omega))
  · intro v4 e4 l4 h4
    have e4 : v4 = σ 0 1 := e4
    intro v5 e5 l5 h5
    have e5 : v5 = σ 2 1 := e5
    refine And.intro (fun c6 => ?_) (fun c6 => ?_)
    · refine And.intro (Nat.le_of_ble_eq_true rfl) ?_
      show xw _ _ _ _ _ _ _ _ _ _ [xvr 0, xvi 0] _ _
      have lp_28 : ∀ (m28 : Nat) (p : Int), ((6 - p).toNat) = m28 → (0 ≤ p) → X 28 [xvr 0, xvi p] σ := by
        intro m28
        induction m28 using Nat.strongRecOn with
        | _ m28 ih_28 =>
        intro p hm_28 hv_28
        refine hX 400 28 _ _ ?_
        intro v8 e8 l8 h8
        have e8 : v8 = σ 2 1 := e8
        refine And.intro (fun c9 => ?_) (fun c9 => ?_)
        · refine And.intro rfl ?_
          refine And.intro (by omega) ?_
          exact hQ _ (show (1 = 1 ∧ σ 0 1 = σ 2 1) ∨ (1 = 0 ∧ (0 : Int) ≤ 0) from by first | trivial | omega)
        · refine And.intro (Or.inl rfl) (And.intro (⟨by omega, by omega⟩) ?_)
          intro v10 e10 l10 h10
          have e10 : v10 = σ 1 p.toNat := e10
          refine sX10_isRule (σ := σ) (rule := v10)  (fun r11 p11 => ?_)
          have p11 : (r11 = 1 ∧ 0 ≤ v10 ∧ v10 < 4) ∨ (r11 = 0 ∧ (0 : Int) ≤ 0) := p11
          refine And.intro (fun c12 => ?_) (fun c12 => ?_)
          · replace p11 : 0 ≤ v10 ∧ v10 < 4 := by
              rcases p11 with q | q
              · exact q.2
              · exact absurd q.1 (by omega)
            intro z13 t13 e13 l13 h13
            try have w13 : t13 = 0 := by omega
            show xw _ _ _ _ _ _ _ _ _ _ [xvr 0, xvi z13] _ _
            exact ih_28 _ (show (6 - z13).toNat < m28 from by omega) z13 rfl (show 0 ≤ z13 from by first | trivial | omega | (refine ⟨by assumption, ?_⟩; omega) | (refine ⟨?_, ?_⟩ <;> omega))
          · replace p11 : (0 : Int) ≤ 0 := by
              rcases p11 with q | q
              · exact absurd q.1 (by omega)
              · exact q.2
            refine And.intro rfl ?_
            refine And.intro (by omega) ?_
            exact hQ _ (show (0 = 1 ∧ σ 0 1 = σ 2 1) ∨ (0 = 0 ∧ (0 : Int) ≤ 0) from by first | trivial | omega)
      exact lp_28 _ 0 rfl (show 0 ≤ 0 from by first | trivial | omega | (refine ⟨by assumption, ?_⟩; omega) | (refine ⟨?_, ?_⟩ <;> omega))
    · exact lp_24 () (show True from by first | trivial | omega | (refine ⟨by assumption, ?_⟩; omega) | (refine ⟨?_, ?_⟩ <;> omega))
set_option maxHeartbeats 4000000 in
set_option maxRecDepth 100000 in
theorem sX10_isOpen {σ : xS} {Q : Option xV → xS → Prop} (hp0 : JG (xsel [2, 3, 4, 5, 6, 7, 8, 9, 10, 11, 12, 13, 14] σ)) (hQ : ∀ r : Int, ((r = 1 ∧ σ 2 1 = 2 ∧ σ 2 0 ≤ 3 ∧ σ 2 9 - σ 2 8 ≤ 4 ∧ (0 ≤ σ 2 14 ∧ σ 2 14 < 2)) ∨ (r = 0 ∧ (0 : Int) ≤ 0)) → Q (some (xvi r)) σ) : xT kX10_isOpen [xvr 0] σ Q := by
  refine ⟨Nat.le_of_ble_eq_true rfl, fun X hX => ?_⟩
  show X 0 [xvr 0] σ
  refine hX 400 0 _ _ ?_
  have hb0 : 0 ≤ σ 2 0 ∧ σ 2 0 ≤ 13 := hp0.1.1.1
  have hb1 : 0 ≤ σ 2 1 ∧ σ 2 1 ≤ 6 := hp0.1.1.2.1
  have hb8 : 0 ≤ σ 2 8 ∧ σ 2 8 ≤ σ 2 9 ∧ σ 2 9 ≤ 52 := hp0.1.1.2.2.1
  have hb9 : 0 ≤ σ 11 2 ∧ σ 11 2 ≤ 52 := hp0.1.2.2.2
  have lp_54 : ∀ (_ : Unit), (True) → X 54 [xvr 0] σ := by
    intro _ hv_54
    refine hX 400 54 _ _ ?_
    refine And.intro rfl ?_
    refine And.intro (by omega) ?_
    exact hQ _ (show (0 = 1 ∧ σ 2 1 = 2 ∧ σ 2 0 ≤ 3 ∧ σ 2 9 - σ 2 8 ≤ 4 ∧ (0 ≤ σ 2 14 ∧ σ 2 14 < 2)) ∨ (0 = 0 ∧ (0 : Int) ≤ 0) from by first | trivial | omega)
  intro v2 e2 l2 h2
  have e2 : v2 = σ 2 1 := e2
  refine And.intro (fun c3 => ?_) (fun c3 => ?_)
  · exact lp_54 () (show True from by first | trivial | omega | (refine ⟨by assumption, ?_⟩; omega) | (refine ⟨?_, ?_⟩ <;> omega))
  · intro v4 e4 l4 h4
    have e4 : v4 = σ 2 0 := e4
    refine And.intro (fun c5 => ?_) (fun c5 => ?_)
    · exact lp_54 () (show True from by first | trivial | omega | (refine ⟨by assumption, ?_⟩; omega) | (refine ⟨?_, ?_⟩ <;> omega))
    · refine xMVp (sh := shB0) (ci := 2) (τ := [2, 3, 4, 5, 6, 7, 8, 9, 10, 11, 12, 13, 14]) (E := xT kX2_heapSize) (t := 2) (r := []) (σ := σ) rfl rfl xbk_sel (fun Q6 hQ6 => sX2_heapSize (σ := xsel [2, 3, 4, 5, 6, 7, 8, 9, 10, 11, 12, 13, 14] σ)  (show 0 ≤ (σ 2 8) ∧ (σ 2 8) ≤ (σ 2 9) ∧ (σ 2 9) ≤ 52 from by omega) (fun r6 p6 => hQ6 _ ?_))
      have p6 : r6 = (σ 2 9) - (σ 2 8) := p6
      refine And.intro (fun c7 => ?_) (fun c7 => ?_)
      · exact lp_54 () (show True from by first | trivial | omega | (refine ⟨by assumption, ?_⟩; omega) | (refine ⟨?_, ?_⟩ <;> omega))
      · intro v8 e8 l8 h8
        have e8 : v8 = σ 2 14 := e8
        refine xMVp (sh := shB0) (ci := 2) (τ := [2, 3, 4, 5, 6, 7, 8, 9, 10, 11, 12, 13, 14]) (E := xT kX2_hasPerson) (t := 2) (r := [xvi v8]) (σ := σ) rfl rfl xbk_sel (fun Q9 hQ9 => sX2_hasPerson (σ := xsel [2, 3, 4, 5, 6, 7, 8, 9, 10, 11, 12, 13, 14] σ) (p := v8)  (fun r9 p9 => hQ9 _ ?_))
        have p9 : (r9 = 1 ∧ 0 ≤ v8 ∧ v8 < (σ 2 1)) ∨ (r9 = 0 ∧ (v8 < 0 ∨ (σ 2 1) ≤ v8)) := p9
        refine And.intro (fun c10 => ?_) (fun c10 => ?_)
        · replace p9 : (v8 < 0 ∨ (σ 2 1) ≤ v8) := by
            rcases p9 with q | q
            · exact absurd q.1 (by omega)
            · exact q.2
          exact lp_54 () (show True from by first | trivial | omega | (refine ⟨by assumption, ?_⟩; omega) | (refine ⟨?_, ?_⟩ <;> omega))
        · replace p9 : 0 ≤ v8 ∧ v8 < (σ 2 1) := by
            rcases p9 with q | q
            · exact q.2
            · exact absurd q.1 (by omega)
          refine And.intro rfl ?_
          refine And.intro (by omega) ?_
          exact hQ _ (show (1 = 1 ∧ σ 2 1 = 2 ∧ σ 2 0 ≤ 3 ∧ σ 2 9 - σ 2 8 ≤ 4 ∧ (0 ≤ σ 2 14 ∧ σ 2 14 < 2)) ∨ (1 = 0 ∧ (0 : Int) ≤ 0) from by first | trivial | omega)
set_option maxHeartbeats 4000000 in
set_option maxRecDepth 100000 in
theorem sX10_areGames {σ : xS} {i j n : Int} {Q : Option xV → xS → Prop} (hp0 : JG (xsel [2, 3, 4, 5, 6, 7, 8, 9, 10, 11, 12, 13, 14] σ)) (hQ : ∀ r : Int, ((r = 1 ∧ n ≤ 30) ∨ (r = 0 ∧ (0 : Int) ≤ 0)) → Q (some (xvi r)) σ) : xT kX10_areGames [xvr 0, xvi i, xvi j, xvi n] σ Q := by
  refine ⟨Nat.le_of_ble_eq_true rfl, fun X hX => ?_⟩
  show X 0 [xvr 0, xvi i, xvi j, xvi n] σ
  refine hX 400 0 _ _ ?_
  have hb0 : 0 ≤ σ 2 0 ∧ σ 2 0 ≤ 13 := hp0.1.1.1
  have hb1 : 0 ≤ σ 2 1 ∧ σ 2 1 ≤ 6 := hp0.1.1.2.1
  have hb8 : 0 ≤ σ 2 8 ∧ σ 2 8 ≤ σ 2 9 ∧ σ 2 9 ≤ 52 := hp0.1.1.2.2.1
  have hb9 : 0 ≤ σ 11 2 ∧ σ 11 2 ≤ 52 := hp0.1.2.2.2
  have lp_53 : ∀ (_ : Unit), (True) → X 53 [xvr 0, xvi i, xvi j, xvi n] σ := by
    intro _ hv_53
    refine hX 400 53 _ _ ?_
    refine And.intro rfl ?_
    refine And.intro (by omega) ?_
    exact hQ _ (show (0 = 1 ∧ n ≤ 30) ∨ (0 = 0 ∧ (0 : Int) ≤ 0) from by first | trivial | omega)
  refine sX10_isRule (σ := σ) (rule := i)  (fun r2 p2 => ?_)
  have p2 : (r2 = 1 ∧ 0 ≤ i ∧ i < 4) ∨ (r2 = 0 ∧ (0 : Int) ≤ 0) := p2
  refine And.intro (fun c3 => ?_) (fun c3 => ?_)
  · replace p2 : (0 : Int) ≤ 0 := by
      rcases p2 with q | q
      · exact absurd q.1 (by omega)
      · exact q.2
    exact lp_53 () (show True from by first | trivial | omega | (refine ⟨by assumption, ?_⟩; omega) | (refine ⟨?_, ?_⟩ <;> omega))
  · replace p2 : 0 ≤ i ∧ i < 4 := by
      rcases p2 with q | q
      · exact q.2
      · exact absurd q.1 (by omega)
    refine sX10_isRule (σ := σ) (rule := j)  (fun r4 p4 => ?_)
    have p4 : (r4 = 1 ∧ 0 ≤ j ∧ j < 4) ∨ (r4 = 0 ∧ (0 : Int) ≤ 0) := p4
    refine And.intro (fun c5 => ?_) (fun c5 => ?_)
    · replace p4 : (0 : Int) ≤ 0 := by
        rcases p4 with q | q
        · exact absurd q.1 (by omega)
        · exact q.2
      exact lp_53 () (show True from by first | trivial | omega | (refine ⟨by assumption, ?_⟩; omega) | (refine ⟨?_, ?_⟩ <;> omega))
    · replace p4 : 0 ≤ j ∧ j < 4 := by
        rcases p4 with q | q
        · exact q.2
        · exact absurd q.1 (by omega)
      refine And.intro (fun c6 => ?_) (fun c6 => ?_)
      · exact lp_53 () (show True from by first | trivial | omega | (refine ⟨by assumption, ?_⟩; omega) | (refine ⟨?_, ?_⟩ <;> omega))
      · refine And.intro (fun c7 => ?_) (fun c7 => ?_)
        · exact lp_53 () (show True from by first | trivial | omega | (refine ⟨by assumption, ?_⟩; omega) | (refine ⟨?_, ?_⟩ <;> omega))
        · intro v8 e8 l8 h8
          have e8 : v8 = σ 2 1 := e8
          refine And.intro (fun c9 => ?_) (fun c9 => ?_)
          · exact lp_53 () (show True from by first | trivial | omega | (refine ⟨by assumption, ?_⟩; omega) | (refine ⟨?_, ?_⟩ <;> omega))
          · refine xMVp (sh := shB0) (ci := 2) (τ := [2, 3, 4, 5, 6, 7, 8, 9, 10, 11, 12, 13, 14]) (E := xT kX2_canDeal) (t := 2) (r := [xvi 5]) (σ := σ) rfl rfl xbk_sel (fun Q10 hQ10 => sX2_canDeal (σ := xsel [2, 3, 4, 5, 6, 7, 8, 9, 10, 11, 12, 13, 14] σ) (n := 5) (show 0 ≤ (σ 2 0) ∧ (σ 2 0) ≤ 13 from by omega) (show 0 ≤ (σ 2 1) ∧ (σ 2 1) ≤ 6 from by omega) (fun r10 p10 => hQ10 _ ?_))
            have p10 : r10 = 0 ∨ r10 = 1 := p10
            refine And.intro (fun c11 => ?_) (fun c11 => ?_)
            · exact lp_53 () (show True from by first | trivial | omega | (refine ⟨by assumption, ?_⟩; omega) | (refine ⟨?_, ?_⟩ <;> omega))
            · refine And.intro rfl ?_
              refine And.intro (by omega) ?_
              exact hQ _ (show (1 = 1 ∧ n ≤ 30) ∨ (1 = 0 ∧ (0 : Int) ≤ 0) from by first | trivial | omega)
set_option maxHeartbeats 4000000 in
set_option maxRecDepth 100000 in
theorem sX10_part {σ : xS} {above below what : Int} {Q : Option xV → xS → Prop} (hQ : ∀ r : Int, Q (some (xvl r)) σ) : xT kX10_part [xvl above, xvl below, xvi what] σ Q := by
  refine ⟨Nat.le_of_ble_eq_true rfl, fun X hX => ?_⟩
  show X 0 [xvl above, xvu, xvl below, xvu, xvi what, xvu, xvu, xvu, xvu, xvu, xvu, xvu] σ
  refine hX 400 0 _ _ ?_
  refine And.intro (Nat.le_of_ble_eq_true rfl) ?_
  show xw _ _ _ _ _ _ _ _ _ _ [xvl above, xvu, xvl below, xvu, xvi what, xvl above, xvu, xvu, xvu, xvu, xvu, xvu] _ _
  refine And.intro (Nat.le_of_ble_eq_true rfl) ?_
  show xw _ _ _ _ _ _ _ _ _ _ [xvl above, xvu, xvl below, xvu, xvi what, xvl above, xvu, xvl below, xvu, xvu, xvu, xvu] _ _
  refine And.intro (Nat.le_of_ble_eq_true rfl) ?_
  show xw _ _ _ _ _ _ _ _ _ _ [xvl above, xvu, xvl below, xvu, xvi what, xvl above, xvu, xvl below, xvu, xvi 0, xvu, xvu] _ _
  have lp_9 : ∀ (m9 : Nat) (a : Int) (b : Int) (step : Int) (u1_10 : xV) (u1_11 : xV), ((200 - step).toNat) = m9 → (0 ≤ step) → X 9 [xvl above, xvu, xvl below, xvu, xvi what, xvl a, xvu, xvl b, xvu, xvi step, u1_10, u1_11] σ := by
    intro m9
    induction m9 using Nat.strongRecOn with
    | _ m9 ih_9 =>
    intro a b step u1_10 u1_11 hm_9 hv_9
    refine hX 400 9 _ _ ?_
    have lp_45 : ∀ (_ : Unit), (True) → X 45 [xvl above, xvu, xvl below, xvu, xvi what, xvl a, xvu, xvl b, xvu, xvi step, u1_10, u1_11] σ := by
      intro _ hv_45
      refine hX 400 45 _ _ ?_
      refine And.intro (fun c3 => ?_) (fun c3 => ?_)
      · refine And.intro (Nat.le_of_ble_eq_true rfl) ?_
        show xw _ _ _ _ _ _ _ _ _ _ [xvl above, xvu, xvl below, xvu, xvi what, xvl a, xvu, xvl b, xvu, xvl below, xvu, u1_11] _ _
        intro z4 a4 b4 c4 l4 h4
        refine And.intro (fun c5 => ?_) (fun c5 => ?_)
        · refine And.intro rfl (And.intro rfl ?_)
          exact hQ _ 
        · refine And.intro (by omega) ?_
          intro z6 e6 f6 l6 h6
          refine And.intro rfl (And.intro rfl ?_)
          exact hQ _ 
      · refine And.intro (Nat.le_of_ble_eq_true rfl) ?_
        show xw _ _ _ _ _ _ _ _ _ _ [xvl above, xvu, xvl below, xvu, xvi what, xvl a, xvu, xvl b, xvu, xvl above, xvu, u1_11] _ _
        intro z7 a7 b7 c7 l7 h7
        refine And.intro (fun c8 => ?_) (fun c8 => ?_)
        · refine And.intro rfl (And.intro rfl ?_)
          exact hQ _ 
        · refine And.intro (by omega) ?_
          intro z9 e9 f9 l9 h9
          refine And.intro rfl (And.intro rfl ?_)
          exact hQ _ 
    refine And.intro (fun c10 => ?_) (fun c10 => ?_)
    · exact lp_45 () (show True from by first | trivial | omega | (refine ⟨by assumption, ?_⟩; omega) | (refine ⟨?_, ?_⟩ <;> omega))
    · intro z11 a11 b11 c11 l11 h11
      refine And.intro (fun c12 => ?_) (fun c12 => ?_)
      · exact lp_45 () (show True from by first | trivial | omega | (refine ⟨by assumption, ?_⟩; omega) | (refine ⟨?_, ?_⟩ <;> omega))
      · refine And.intro (by omega) ?_
        intro z13 e13 f13 l13 h13
        refine And.intro (Nat.le_of_ble_eq_true rfl) ?_
        show xw _ _ _ _ _ _ _ _ _ _ [xvl above, xvu, xvl below, xvu, xvi what, xvl a, xvu, xvl b, xvu, xvi step, xvl z13, xvu] _ _
        refine And.intro (Nat.le_of_ble_eq_true rfl) ?_
        show xw _ _ _ _ _ _ _ _ _ _ [xvl above, xvu, xvl below, xvu, xvi what, xvl b, xvu, xvl b, xvu, xvi step, xvl z13, xvu] _ _
        refine And.intro (Nat.le_of_ble_eq_true rfl) ?_
        show xw _ _ _ _ _ _ _ _ _ _ [xvl above, xvu, xvl below, xvu, xvi what, xvl b, xvu, xvl z13, xvu, xvi step, xvl z13, xvu] _ _
        intro z14 t14 e14 l14 h14
        try have w14 : t14 = 0 := by omega
        show xw _ _ _ _ _ _ _ _ _ _ [xvl above, xvu, xvl below, xvu, xvi what, xvl b, xvu, xvl z13, xvu, xvi z14, xvl z13, xvu] _ _
        exact ih_9 _ (show (200 - z14).toNat < m9 from by omega) b z13 z14 (xvl z13) (xvu) rfl (show 0 ≤ z14 from by first | trivial | omega | (refine ⟨by assumption, ?_⟩; omega) | (refine ⟨?_, ?_⟩ <;> omega))
  exact lp_9 _ above below 0 (xvu) (xvu) rfl (show 0 ≤ 0 from by first | trivial | omega | (refine ⟨by assumption, ?_⟩; omega) | (refine ⟨?_, ?_⟩ <;> omega))
set_option maxHeartbeats 4000000 in
set_option maxRecDepth 100000 in
theorem sX10_playGames {σ : xS} {i j n seed ak : Int} {Q : Option xV → xS → Prop} (hp0 : JG (xsel [2, 3, 4, 5, 6, 7, 8, 9, 10, 11, 12, 13, 14] σ)) (hp1 : n ≤ 30) (hQ : ∀ r : Int, ∀ σ' : xS, Fr [15, 16, 17, 18, 19, 20, 21, 22, 23, 24, 25, 26, 27, 44] [] σ σ' → Q (some (xvi r)) σ') : xT kX10_playGames [xvr 0, xvi i, xvi j, xvi n, xvi seed, xvi ak] σ Q := by
  refine ⟨Nat.le_of_ble_eq_true rfl, fun X hX => ?_⟩
  show X 0 [xvr 0, xvi i, xvi j, xvi n, xvi seed, xvi ak, xvu, xvu, xvu, xvu, xvu] σ
  have hF : Fr [15, 16, 17, 18, 19, 20, 21, 22, 23, 24, 25, 26, 27, 44] [] σ σ := Fr.rf
  refine hX 400 0 _ _ ?_
  have hb0 : 0 ≤ σ 2 0 ∧ σ 2 0 ≤ 13 := hp0.1.1.1
  have hb1 : 0 ≤ σ 2 1 ∧ σ 2 1 ≤ 6 := hp0.1.1.2.1
  have hb8 : 0 ≤ σ 2 8 ∧ σ 2 8 ≤ σ 2 9 ∧ σ 2 9 ≤ 52 := hp0.1.1.2.2.1
  have hb9 : 0 ≤ σ 11 2 ∧ σ 11 2 ≤ 52 := hp0.1.2.2.2
  have hb2 : σ 2 2 = 0 ∨ σ 2 2 = 1 := hp0.2.1
  refine And.intro (Nat.le_of_ble_eq_true rfl) ?_
  show xw _ _ _ _ _ _ _ _ _ _ [xvr 0, xvi i, xvi j, xvi n, xvi seed, xvi ak, xvi 0, xvu, xvu, xvu, xvu] _ _
  refine And.intro (Nat.le_of_ble_eq_true rfl) ?_
  show xw _ _ _ _ _ _ _ _ _ _ [xvr 0, xvi i, xvi j, xvi n, xvi seed, xvi ak, xvi 0, xvi 0, xvu, xvu, xvu] _ _
  refine And.intro (Nat.le_of_ble_eq_true rfl) ?_
  show xw _ _ _ _ _ _ _ _ _ _ [xvr 0, xvi i, xvi j, xvi n, xvi seed, xvi ak, xvi 0, xvi 0, xvi 0, xvu, xvu] _ _
  have lp_9 : ∀ (m9 : Nat) (wins : Int) (al : Int) (g : Int) (u1_9 : xV) (u1_10 : xV) (s1 : xS), ((n - g).toNat) = m9 → (Fr [15, 16, 17, 18, 19, 20, 21, 22, 23, 24, 25, 26, 27, 44] [] σ s1 ∧ 0 ≤ g) → X 9 [xvr 0, xvi i, xvi j, xvi n, xvi seed, xvi ak, xvi wins, xvi al, xvi g, u1_9, u1_10] s1 := by
    intro m9
    induction m9 using Nat.strongRecOn with
    | _ m9 ih_9 =>
    intro wins al g u1_9 u1_10 s1 hm_9 hv_9
    obtain ⟨hF, hv_9⟩ := hv_9
    have k22 : s1 2 2 = σ 2 2 := congrFun (hF.1 2 (by decide) (by decide)) 2
    have k112 : s1 11 2 = σ 11 2 := congrFun (hF.1 11 (by decide) (by decide)) 2
    have k20 : s1 2 0 = σ 2 0 := congrFun (hF.1 2 (by decide) (by decide)) 0
    have k21 : s1 2 1 = σ 2 1 := congrFun (hF.1 2 (by decide) (by decide)) 1
    refine hX 400 9 _ _ ?_
    refine And.intro (fun c2 => ?_) (fun c2 => ?_)
    · refine And.intro (fun c3 => ?_) (fun c3 => ?_)
      · refine And.intro rfl ?_
        exact hQ _ _ hF
      · refine And.intro rfl ?_
        exact hQ _ _ hF
    · refine xMVf (sh := shB0) (ci := 2) (τ := [15, 16, 17, 18, 19, 20, 21, 22, 23, 24, 25, 26, 27, 2, 3, 4, 5, 6, 7, 8, 9, 10, 11, 12, 13, 14]) (E := xT kX2_copyFrom) (t := 15) (r := [xvr 2]) (σ := s1) rfl rfl (fun Q4 hQ4 => sX2_copyFrom (σ := xsel [15, 16, 17, 18, 19, 20, 21, 22, 23, 24, 25, 26, 27, 2, 3, 4, 5, 6, 7, 8, 9, 10, 11, 12, 13, 14] s1)  (show 0 ≤ (s1 11 2) ∧ (s1 11 2) ≤ 52 from by omega) (show (s1 2 2) = 0 ∨ (s1 2 2) = 1 from by omega) (fun ς4 f4 p4 => hQ4 _ _ ?_))
      replace f4 : Fr [15, 16, 17, 18, 19, 20, 21, 22, 23, 24, 25, 26, 27] [] s1 (xbk [15, 16, 17, 18, 19, 20, 21, 22, 23, 24, 25, 26, 27, 2, 3, 4, 5, 6, 7, 8, 9, 10, 11, 12, 13, 14] s1 ς4) := f4.bk (by decide) (by decide)
      replace p4 : (∀ i : Nat, (i : Int) < 78 → (xbk [15, 16, 17, 18, 19, 20, 21, 22, 23, 24, 25, 26, 27, 2, 3, 4, 5, 6, 7, 8, 9, 10, 11, 12, 13, 14] s1 ς4) 17 i = s1 4 i) ∧ (∀ i : Nat, (i : Int) < 52 → (xbk [15, 16, 17, 18, 19, 20, 21, 22, 23, 24, 25, 26, 27, 2, 3, 4, 5, 6, 7, 8, 9, 10, 11, 12, 13, 14] s1 ς4) 19 i = s1 6 i) ∧ (∀ i : Nat, (i : Int) < 78 → (xbk [15, 16, 17, 18, 19, 20, 21, 22, 23, 24, 25, 26, 27, 2, 3, 4, 5, 6, 7, 8, 9, 10, 11, 12, 13, 14] s1 ς4) 25 i = s1 12 i) ∧ ((xbk [15, 16, 17, 18, 19, 20, 21, 22, 23, 24, 25, 26, 27, 2, 3, 4, 5, 6, 7, 8, 9, 10, 11, 12, 13, 14] s1 ς4) 15 0 = (s1 2 0) ∧ (xbk [15, 16, 17, 18, 19, 20, 21, 22, 23, 24, 25, 26, 27, 2, 3, 4, 5, 6, 7, 8, 9, 10, 11, 12, 13, 14] s1 ς4) 15 1 = (s1 2 1) ∧ (xbk [15, 16, 17, 18, 19, 20, 21, 22, 23, 24, 25, 26, 27, 2, 3, 4, 5, 6, 7, 8, 9, 10, 11, 12, 13, 14] s1 ς4) 15 2 = (s1 2 2) ∧ (xbk [15, 16, 17, 18, 19, 20, 21, 22, 23, 24, 25, 26, 27, 2, 3, 4, 5, 6, 7, 8, 9, 10, 11, 12, 13, 14] s1 ς4) 15 8 = (s1 2 8) ∧ (xbk [15, 16, 17, 18, 19, 20, 21, 22, 23, 24, 25, 26, 27, 2, 3, 4, 5, 6, 7, 8, 9, 10, 11, 12, 13, 14] s1 ς4) 15 9 = (s1 2 9)) ∧ (xbk [15, 16, 17, 18, 19, 20, 21, 22, 23, 24, 25, 26, 27, 2, 3, 4, 5, 6, 7, 8, 9, 10, 11, 12, 13, 14] s1 ς4) 24 2 = (s1 11 2) := p4
      generalize xbk [15, 16, 17, 18, 19, 20, 21, 22, 23, 24, 25, 26, 27, 2, 3, 4, 5, 6, 7, 8, 9, 10, 11, 12, 13, 14] s1 ς4 = σ4 at f4  p4 ⊢
      have hF := hF.tr f4 (by decide) (by decide)
      obtain ⟨_, _, _, pz, _⟩ := p4
      intro z5 t5 e5 l5 h5
      try have w5 : t5 = 0 := by omega
      refine xMVf (sh := shB0) (ci := 2) (τ := [15, 16, 17, 18, 19, 20, 21, 22, 23, 24, 25, 26, 27]) (E := xT kX2_dealOut) (t := 15) (r := [xvi 5, xvi z5]) (σ := σ4) rfl rfl (fun Q6 hQ6 => sX2_dealOut (σ := xsel [15, 16, 17, 18, 19, 20, 21, 22, 23, 24, 25, 26, 27] σ4) (n := 5) (seed := z5) (show 0 ≤ (σ4 15 0) ∧ (σ4 15 0) ≤ 13 from by omega) (show 0 ≤ (σ4 15 1) ∧ (σ4 15 1) ≤ 6 from by omega) (fun ς6 f6 p6 => hQ6 _ _ ?_))
      have kq6_0 : (xbk [15, 16, 17, 18, 19, 20, 21, 22, 23, 24, 25, 26, 27] σ4 ς6) 15 0 = σ4 15 0 := f6.2 0 (by decide)
      have kq6_1 : (xbk [15, 16, 17, 18, 19, 20, 21, 22, 23, 24, 25, 26, 27] σ4 ς6) 15 1 = σ4 15 1 := f6.2 1 (by decide)
      have kq6_2 : (xbk [15, 16, 17, 18, 19, 20, 21, 22, 23, 24, 25, 26, 27] σ4 ς6) 15 2 = σ4 15 2 := f6.2 2 (by decide)
      replace f6 : Fr [15, 17, 18, 19] [] σ4 (xbk [15, 16, 17, 18, 19, 20, 21, 22, 23, 24, 25, 26, 27] σ4 ς6) := f6.bk (by decide) (by decide)
      replace p6 : C0x (xsel [15, 16, 17, 18, 19, 20, 21, 22, 23, 24, 25, 26, 27] (xbk [15, 16, 17, 18, 19, 20, 21, 22, 23, 24, 25, 26, 27] σ4 ς6)) := p6
      generalize xbk [15, 16, 17, 18, 19, 20, 21, 22, 23, 24, 25, 26, 27] σ4 ς6 = σ6 at f6 kq6_0 kq6_1 kq6_2 p6 ⊢
      have hF := hF.tr f6 (by decide) (by decide)
      have hC0 := p6
      refine xMVf (sh := shB0) (ci := 2) (τ := [15, 16, 17, 18, 19, 20, 21, 22, 23, 24, 25, 26, 27]) (E := xT kX2_start) (t := 15) (r := []) (σ := σ6) rfl rfl (fun Q7 hQ7 => sX2_start (σ := xsel [15, 16, 17, 18, 19, 20, 21, 22, 23, 24, 25, 26, 27] σ6)  (show C0x (xsel [15, 16, 17, 18, 19, 20, 21, 22, 23, 24, 25, 26, 27] σ6) from hC0) (fun ς7 f7 p7 => hQ7 _ _ ?_))
      have kq7_0 : (xbk [15, 16, 17, 18, 19, 20, 21, 22, 23, 24, 25, 26, 27] σ6 ς7) 15 0 = σ6 15 0 := f7.2 0 (by decide)
      have kq7_1 : (xbk [15, 16, 17, 18, 19, 20, 21, 22, 23, 24, 25, 26, 27] σ6 ς7) 15 1 = σ6 15 1 := f7.2 1 (by decide)
      have kq7_2 : (xbk [15, 16, 17, 18, 19, 20, 21, 22, 23, 24, 25, 26, 27] σ6 ς7) 15 2 = σ6 15 2 := f7.2 2 (by decide)
      have kq7_9 : (xbk [15, 16, 17, 18, 19, 20, 21, 22, 23, 24, 25, 26, 27] σ6 ς7) 15 9 = σ6 15 9 := f7.2 9 (by decide)
      replace f7 : Fr [15, 17, 18, 20, 21, 22, 23, 24, 25, 26, 27] [] σ6 (xbk [15, 16, 17, 18, 19, 20, 21, 22, 23, 24, 25, 26, 27] σ6 ς7) := f7.bk (by decide) (by decide)
      replace p7 : CG (xsel [15, 16, 17, 18, 19, 20, 21, 22, 23, 24, 25, 26, 27] (xbk [15, 16, 17, 18, 19, 20, 21, 22, 23, 24, 25, 26, 27] σ6 ς7)) := p7
      generalize xbk [15, 16, 17, 18, 19, 20, 21, 22, 23, 24, 25, 26, 27] σ6 ς7 = σ7 at f7 kq7_0 kq7_1 kq7_2 kq7_9 p7 ⊢
      have hF := hF.tr f7 (by decide) (by decide)
      have hC : CG (xsel [15, 16, 17, 18, 19, 20, 21, 22, 23, 24, 25, 26, 27] σ7) := p7
      refine And.intro (Nat.le_of_ble_eq_true rfl) ?_
      show xw _ _ _ _ _ _ _ _ _ _ [xvr 0, xvi i, xvi j, xvi n, xvi seed, xvi ak, xvi wins, xvi al, xvi g, xvi 0, u1_10] _ _
      have lp_49 : ∀ (m49 : Nat) (a : Int) (u8_10 : xV) (s2 : xS), ((300 - a).toNat) = m49 → (Fr [15, 16, 17, 18, 19, 20, 21, 22, 23, 24, 25, 26, 27, 44] [] σ s2 ∧ CG (xsel [15, 16, 17, 18, 19, 20, 21, 22, 23, 24, 25, 26, 27] s2) ∧ 0 ≤ a) → X 49 [xvr 0, xvi i, xvi j, xvi n, xvi seed, xvi ak, xvi wins, xvi al, xvi g, xvi a, u8_10] s2 := by
        intro m49
        induction m49 using Nat.strongRecOn with
        | _ m49 ih_49 =>
        intro a u8_10 s2 hm_49 hv_49
        obtain ⟨hF, hC, hv_49⟩ := hv_49
        have c0 : 0 ≤ s2 15 0 ∧ s2 15 0 ≤ 13 := hC.1.1
        have c1 : 0 ≤ s2 15 1 ∧ s2 15 1 ≤ 6 := hC.1.2.1
        refine hX 400 49 _ _ ?_
        have lp_149 : ∀ (u9_10 : xV), (True) → X 149 [xvr 0, xvi i, xvi j, xvi n, xvi seed, xvi ak, xvi wins, xvi al, xvi g, xvi a, u9_10] s2 := by
          intro u9_10 hv_149
          refine hX 400 149 _ _ ?_
          intro v10 e10 l10 h10
          have e10 : v10 = s2 15 15 := e10
          intro z11 t11 e11 l11 h11
          try have w11 : t11 = 0 := by omega
          refine And.intro (Nat.le_of_ble_eq_true rfl) ?_
          show xw _ _ _ _ _ _ _ _ _ _ [xvr 0, xvi i, xvi j, xvi n, xvi seed, xvi ak, xvi wins, xvi z11, xvi g, xvi a, u9_10] _ _
          have lp_175 : ∀ (wins2 : Int), (True) → X 175 [xvr 0, xvi i, xvi j, xvi n, xvi seed, xvi ak, xvi wins2, xvi z11, xvi g, xvi a, u9_10] s2 := by
            intro wins2 hv_175
            refine hX 400 175 _ _ ?_
            intro z13 t13 e13 l13 h13
            try have w13 : t13 = 0 := by omega
            show xw _ _ _ _ _ _ _ _ _ _ [xvr 0, xvi i, xvi j, xvi n, xvi seed, xvi ak, xvi wins2, xvi z11, xvi z13, xvi a, u9_10] _ _
            exact ih_9 _ (show (n - z13).toNat < m9 from by omega) wins2 z11 z13 (xvi a) (u9_10) s2 rfl ⟨hF, by omega⟩
          refine xMVp (sh := shB0) (ci := 2) (τ := [15, 16, 17, 18, 19, 20, 21, 22, 23, 24, 25, 26, 27]) (E := xT kX2_isAheadOfAll) (t := 15) (r := [xvi 0]) (σ := s2) rfl rfl xbk_sel (fun Q14 hQ14 => sX2_isAheadOfAll (σ := xsel [15, 16, 17, 18, 19, 20, 21, 22, 23, 24, 25, 26, 27] s2) (p := 0) (show 0 ≤ (s2 15 0) ∧ (s2 15 0) ≤ 13 from by omega) (show 0 ≤ (s2 15 1) ∧ (s2 15 1) ≤ 6 from by omega) (fun r14 p14 => hQ14 _ ?_))
          have p14 : r14 = 0 ∨ r14 = 1 := p14
          refine And.intro (fun c15 => ?_) (fun c15 => ?_)
          · exact lp_175 wins (show True from by first | trivial | omega | (refine ⟨by assumption, ?_⟩; omega) | (refine ⟨?_, ?_⟩ <;> omega))
          · intro z16 t16 e16 l16 h16
            try have w16 : t16 = 0 := by omega
            show xw _ _ _ _ _ _ _ _ _ _ [xvr 0, xvi i, xvi j, xvi n, xvi seed, xvi ak, xvi z16, xvi z11, xvi g, xvi a, u9_10] _ _
            exact lp_175 z16 (show True from by first | trivial | omega | (refine ⟨by assumption, ?_⟩; omega) | (refine ⟨?_, ?_⟩ <;> omega))
        refine And.intro (fun c17 => ?_) (fun c17 => ?_)
        · exact lp_149 (u8_10) (show True from by first | trivial | omega | (refine ⟨by assumption, ?_⟩; omega) | (refine ⟨?_, ?_⟩ <;> omega))
        · intro v18 e18 l18 h18
          have e18 : v18 = s2 15 14 := e18
          refine xMVp (sh := shB0) (ci := 2) (τ := [15, 16, 17, 18, 19, 20, 21, 22, 23, 24, 25, 26, 27]) (E := xT kX2_hasPerson) (t := 15) (r := [xvi v18]) (σ := s2) rfl rfl xbk_sel (fun Q19 hQ19 => sX2_hasPerson (σ := xsel [15, 16, 17, 18, 19, 20, 21, 22, 23, 24, 25, 26, 27] s2) (p := v18)  (fun r19 p19 => hQ19 _ ?_))
          have p19 : (r19 = 1 ∧ 0 ≤ v18 ∧ v18 < (s2 15 1)) ∨ (r19 = 0 ∧ (v18 < 0 ∨ (s2 15 1) ≤ v18)) := p19
          refine And.intro (fun c20 => ?_) (fun c20 => ?_)
          · replace p19 : (v18 < 0 ∨ (s2 15 1) ≤ v18) := by
              rcases p19 with q | q
              · exact absurd q.1 (by omega)
              · exact q.2
            exact lp_149 (u8_10) (show True from by first | trivial | omega | (refine ⟨by assumption, ?_⟩; omega) | (refine ⟨?_, ?_⟩ <;> omega))
          · replace p19 : 0 ≤ v18 ∧ v18 < (s2 15 1) := by
              rcases p19 with q | q
              · exact q.2
              · exact absurd q.1 (by omega)
            intro v21 e21 l21 h21
            have e21 : v21 = s2 15 14 := e21
            intro v22 e22 l22 h22
            have e22 : v22 = s2 15 14 := e22
            refine And.intro (fun c23 => ?_) (fun c23 => ?_)
            · refine xMVp (sh := shB0) (ci := 2) (τ := [15, 16, 17, 18, 19, 20, 21, 22, 23, 24, 25, 26, 27]) (E := xT kX2_choice) (t := 15) (r := [xvi v21, xvi j]) (σ := s2) rfl rfl xbk_sel (fun Q24 hQ24 => sX2_choice (σ := xsel [15, 16, 17, 18, 19, 20, 21, 22, 23, 24, 25, 26, 27] s2) (p := v21) (rule := j) (show 0 ≤ (s2 15 0) ∧ (s2 15 0) ≤ 13 from by omega) (show 0 ≤ (s2 15 1) ∧ (s2 15 1) ≤ 6 from by omega) (show 0 ≤ v21 ∧ v21 ≤ 5 from by omega) (fun r24 p24 => hQ24 _ ?_))
              have p24 : r24 = -1 ∨ (0 ≤ r24 ∧ r24 / 100 ≤ 5 ∧ r24 % 100 ≤ 12) := p24
              refine And.intro (Nat.le_of_ble_eq_true rfl) ?_
              show xw _ _ _ _ _ _ _ _ _ _ [xvr 0, xvi i, xvi j, xvi n, xvi seed, xvi ak, xvi wins, xvi al, xvi g, xvi a, xvi r24] _ _
              refine And.intro (fun c25 => ?_) (fun c25 => ?_)
              · intro v26 e26 l26 h26
                have e26 : v26 = s2 15 14 := e26
                refine And.intro (by omega) ?_
                intro z27 e27 f27 l27 h27
                replace f27 := f27 (by omega) (by omega)
                refine And.intro (by omega) ?_
                intro z28 e28 f28 l28 h28
                replace f28 := f28 (by omega) (by omega)
                refine xMVf (sh := shB0) (ci := 2) (τ := [15, 16, 17, 18, 19, 20, 21, 22, 23, 24, 25, 26, 27, 44]) (E := xT kX2_doAsking) (t := 15) (r := [xvi v26, xvi z27, xvi z28, xvi 0, xvr 44]) (σ := s2) rfl rfl (fun Q29 hQ29 => sX2_doAsking (σ := xsel [15, 16, 17, 18, 19, 20, 21, 22, 23, 24, 25, 26, 27, 44] s2) (p := v26) (q := z27) (kind := z28) (lies := 0) (show CG (xsel [15, 16, 17, 18, 19, 20, 21, 22, 23, 24, 25, 26, 27, 44] s2) from hC) (show 0 ≤ v26 ∧ v26 ≤ 5 from by omega) (show 0 ≤ z27 ∧ z27 ≤ 5 from by omega) (show 0 ≤ z28 ∧ z28 ≤ 12 from by omega) (fun r29 ς29 f29 p29 => hQ29 _ _ ?_))
                replace f29 : Fr [15, 17, 18, 20, 21, 22, 23, 24, 25, 26, 27, 44] [] s2 (xbk [15, 16, 17, 18, 19, 20, 21, 22, 23, 24, 25, 26, 27, 44] s2 ς29) := f29.bk (by decide) (by decide)
                replace p29 : CG (xsel [15, 16, 17, 18, 19, 20, 21, 22, 23, 24, 25, 26, 27, 44] (xbk [15, 16, 17, 18, 19, 20, 21, 22, 23, 24, 25, 26, 27, 44] s2 ς29)) := p29
                generalize xbk [15, 16, 17, 18, 19, 20, 21, 22, 23, 24, 25, 26, 27, 44] s2 ς29 = σ29 at f29  p29 ⊢
                have hF := hF.tr f29 (by decide) (by decide)
                intro z30 t30 e30 l30 h30
                try have w30 : t30 = 0 := by omega
                show xw _ _ _ _ _ _ _ _ _ _ [xvr 0, xvi i, xvi j, xvi n, xvi seed, xvi ak, xvi wins, xvi al, xvi g, xvi z30, xvi r24] _ _
                exact ih_49 _ (show (300 - z30).toNat < m49 from by omega) z30 (xvi r24) σ29 rfl ⟨hF, (show CG (xsel [15, 16, 17, 18, 19, 20, 21, 22, 23, 24, 25, 26, 27] σ29) from p29), by omega⟩
              · exact lp_149 (xvi r24) (show True from by first | trivial | omega | (refine ⟨by assumption, ?_⟩; omega) | (refine ⟨?_, ?_⟩ <;> omega))
            · refine xMVp (sh := shB0) (ci := 2) (τ := [15, 16, 17, 18, 19, 20, 21, 22, 23, 24, 25, 26, 27]) (E := xT kX2_choice) (t := 15) (r := [xvi v21, xvi i]) (σ := s2) rfl rfl xbk_sel (fun Q31 hQ31 => sX2_choice (σ := xsel [15, 16, 17, 18, 19, 20, 21, 22, 23, 24, 25, 26, 27] s2) (p := v21) (rule := i) (show 0 ≤ (s2 15 0) ∧ (s2 15 0) ≤ 13 from by omega) (show 0 ≤ (s2 15 1) ∧ (s2 15 1) ≤ 6 from by omega) (show 0 ≤ v21 ∧ v21 ≤ 5 from by omega) (fun r31 p31 => hQ31 _ ?_))
              have p31 : r31 = -1 ∨ (0 ≤ r31 ∧ r31 / 100 ≤ 5 ∧ r31 % 100 ≤ 12) := p31
              refine And.intro (Nat.le_of_ble_eq_true rfl) ?_
              show xw _ _ _ _ _ _ _ _ _ _ [xvr 0, xvi i, xvi j, xvi n, xvi seed, xvi ak, xvi wins, xvi al, xvi g, xvi a, xvi r31] _ _
              refine And.intro (fun c32 => ?_) (fun c32 => ?_)
              · intro v33 e33 l33 h33
                have e33 : v33 = s2 15 14 := e33
                refine And.intro (by omega) ?_
                intro z34 e34 f34 l34 h34
                replace f34 := f34 (by omega) (by omega)
                refine And.intro (by omega) ?_
                intro z35 e35 f35 l35 h35
                replace f35 := f35 (by omega) (by omega)
                refine xMVf (sh := shB0) (ci := 2) (τ := [15, 16, 17, 18, 19, 20, 21, 22, 23, 24, 25, 26, 27, 44]) (E := xT kX2_doAsking) (t := 15) (r := [xvi v33, xvi z34, xvi z35, xvi 0, xvr 44]) (σ := s2) rfl rfl (fun Q36 hQ36 => sX2_doAsking (σ := xsel [15, 16, 17, 18, 19, 20, 21, 22, 23, 24, 25, 26, 27, 44] s2) (p := v33) (q := z34) (kind := z35) (lies := 0) (show CG (xsel [15, 16, 17, 18, 19, 20, 21, 22, 23, 24, 25, 26, 27, 44] s2) from hC) (show 0 ≤ v33 ∧ v33 ≤ 5 from by omega) (show 0 ≤ z34 ∧ z34 ≤ 5 from by omega) (show 0 ≤ z35 ∧ z35 ≤ 12 from by omega) (fun r36 ς36 f36 p36 => hQ36 _ _ ?_))
                replace f36 : Fr [15, 17, 18, 20, 21, 22, 23, 24, 25, 26, 27, 44] [] s2 (xbk [15, 16, 17, 18, 19, 20, 21, 22, 23, 24, 25, 26, 27, 44] s2 ς36) := f36.bk (by decide) (by decide)
                replace p36 : CG (xsel [15, 16, 17, 18, 19, 20, 21, 22, 23, 24, 25, 26, 27, 44] (xbk [15, 16, 17, 18, 19, 20, 21, 22, 23, 24, 25, 26, 27, 44] s2 ς36)) := p36
                generalize xbk [15, 16, 17, 18, 19, 20, 21, 22, 23, 24, 25, 26, 27, 44] s2 ς36 = σ36 at f36  p36 ⊢
                have hF := hF.tr f36 (by decide) (by decide)
                intro z37 t37 e37 l37 h37
                try have w37 : t37 = 0 := by omega
                show xw _ _ _ _ _ _ _ _ _ _ [xvr 0, xvi i, xvi j, xvi n, xvi seed, xvi ak, xvi wins, xvi al, xvi g, xvi z37, xvi r31] _ _
                exact ih_49 _ (show (300 - z37).toNat < m49 from by omega) z37 (xvi r31) σ36 rfl ⟨hF, (show CG (xsel [15, 16, 17, 18, 19, 20, 21, 22, 23, 24, 25, 26, 27] σ36) from p36), by omega⟩
              · exact lp_149 (xvi r31) (show True from by first | trivial | omega | (refine ⟨by assumption, ?_⟩; omega) | (refine ⟨?_, ?_⟩ <;> omega))
      exact lp_49 _ 0 (u1_10) σ7 rfl ⟨hF, hC, by omega⟩
  exact lp_9 _ 0 0 0 (xvu) (xvu) σ rfl ⟨hF, by omega⟩
set_option maxHeartbeats 4000000 in
set_option maxRecDepth 100000 in
theorem sX10_games {σ : xS} {i j n seed : Int} {Q : Option xV → xS → Prop} (hp0 : JG (xsel [2, 3, 4, 5, 6, 7, 8, 9, 10, 11, 12, 13, 14] σ)) (hQ : ∀ r : Int, ∀ σ' : xS, Fr [15, 16, 17, 18, 19, 20, 21, 22, 23, 24, 25, 26, 27, 44] [] σ σ' → Q (some (xvi r)) σ') : xT kX10_games [xvr 0, xvi i, xvi j, xvi n, xvi seed] σ Q := by
  refine ⟨Nat.le_of_ble_eq_true rfl, fun X hX => ?_⟩
  show X 0 [xvr 0, xvi i, xvi j, xvi n, xvi seed] σ
  have hF : Fr [15, 16, 17, 18, 19, 20, 21, 22, 23, 24, 25, 26, 27, 44] [] σ σ := Fr.rf
  refine hX 400 0 _ _ ?_
  have hb0 : 0 ≤ σ 2 0 ∧ σ 2 0 ≤ 13 := hp0.1.1.1
  have hb1 : 0 ≤ σ 2 1 ∧ σ 2 1 ≤ 6 := hp0.1.1.2.1
  have hb8 : 0 ≤ σ 2 8 ∧ σ 2 8 ≤ σ 2 9 ∧ σ 2 9 ≤ 52 := hp0.1.1.2.2.1
  have hb9 : 0 ≤ σ 11 2 ∧ σ 11 2 ≤ 52 := hp0.1.2.2.2
  refine sX10_areGames (σ := σ) (i := i) (j := j) (n := n) (show JG (xsel [2, 3, 4, 5, 6, 7, 8, 9, 10, 11, 12, 13, 14] σ) from hp0) (fun r1 p1 => ?_)
  have p1 : (r1 = 1 ∧ n ≤ 30) ∨ (r1 = 0 ∧ (0 : Int) ≤ 0) := p1
  refine And.intro (fun c2 => ?_) (fun c2 => ?_)
  · replace p1 : (0 : Int) ≤ 0 := by
      rcases p1 with q | q
      · exact absurd q.1 (by omega)
      · exact q.2
    refine And.intro rfl ?_
    exact hQ _ _ hF
  · replace p1 : n ≤ 30 := by
      rcases p1 with q | q
      · exact q.2
      · exact absurd q.1 (by omega)
    refine sX10_playGames (σ := σ) (i := i) (j := j) (n := n) (seed := seed) (ak := 0) (show JG (xsel [2, 3, 4, 5, 6, 7, 8, 9, 10, 11, 12, 13, 14] σ) from hp0) (show n ≤ 30 from by omega) (fun r3 σ3 f3 => ?_)
    have hF := hF.tr f3 (by decide) (by decide)
    refine And.intro rfl ?_
    exact hQ _ _ hF
set_option maxHeartbeats 4000000 in
set_option maxRecDepth 100000 in
theorem sX10_length {σ : xS} {i j n seed : Int} {Q : Option xV → xS → Prop} (hp0 : JG (xsel [2, 3, 4, 5, 6, 7, 8, 9, 10, 11, 12, 13, 14] σ)) (hQ : ∀ r : Int, ∀ σ' : xS, Fr [15, 16, 17, 18, 19, 20, 21, 22, 23, 24, 25, 26, 27, 44] [] σ σ' → Q (some (xvi r)) σ') : xT kX10_length [xvr 0, xvi i, xvi j, xvi n, xvi seed] σ Q := by
  refine ⟨Nat.le_of_ble_eq_true rfl, fun X hX => ?_⟩
  show X 0 [xvr 0, xvi i, xvi j, xvi n, xvi seed] σ
  have hF : Fr [15, 16, 17, 18, 19, 20, 21, 22, 23, 24, 25, 26, 27, 44] [] σ σ := Fr.rf
  refine hX 400 0 _ _ ?_
  have hb0 : 0 ≤ σ 2 0 ∧ σ 2 0 ≤ 13 := hp0.1.1.1
  have hb1 : 0 ≤ σ 2 1 ∧ σ 2 1 ≤ 6 := hp0.1.1.2.1
  have hb8 : 0 ≤ σ 2 8 ∧ σ 2 8 ≤ σ 2 9 ∧ σ 2 9 ≤ 52 := hp0.1.1.2.2.1
  have hb9 : 0 ≤ σ 11 2 ∧ σ 11 2 ≤ 52 := hp0.1.2.2.2
  refine sX10_areGames (σ := σ) (i := i) (j := j) (n := n) (show JG (xsel [2, 3, 4, 5, 6, 7, 8, 9, 10, 11, 12, 13, 14] σ) from hp0) (fun r1 p1 => ?_)
  have p1 : (r1 = 1 ∧ n ≤ 30) ∨ (r1 = 0 ∧ (0 : Int) ≤ 0) := p1
  refine And.intro (fun c2 => ?_) (fun c2 => ?_)
  · replace p1 : (0 : Int) ≤ 0 := by
      rcases p1 with q | q
      · exact absurd q.1 (by omega)
      · exact q.2
    refine And.intro rfl ?_
    exact hQ _ _ hF
  · replace p1 : n ≤ 30 := by
      rcases p1 with q | q
      · exact q.2
      · exact absurd q.1 (by omega)
    refine sX10_playGames (σ := σ) (i := i) (j := j) (n := n) (seed := seed) (ak := 1) (show JG (xsel [2, 3, 4, 5, 6, 7, 8, 9, 10, 11, 12, 13, 14] σ) from hp0) (show n ≤ 30 from by omega) (fun r3 σ3 f3 => ?_)
    have hF := hF.tr f3 (by decide) (by decide)
    refine And.intro rfl ?_
    exact hQ _ _ hF
set_option maxHeartbeats 4000000 in
set_option maxRecDepth 100000 in
theorem sX10_reply {σ : xS} {j n seed : Int} {Q : Option xV → xS → Prop} (hp0 : JG (xsel [2, 3, 4, 5, 6, 7, 8, 9, 10, 11, 12, 13, 14] σ)) (hQ : ∀ r : Int, ∀ σ' : xS, Fr [15, 16, 17, 18, 19, 20, 21, 22, 23, 24, 25, 26, 27, 44] [] σ σ' → Q (some (xvi r)) σ') : xT kX10_reply [xvr 0, xvi j, xvi n, xvi seed] σ Q := by
  refine ⟨Nat.le_of_ble_eq_true rfl, fun X hX => ?_⟩
  show X 0 [xvr 0, xvi j, xvi n, xvi seed, xvu, xvu, xvu, xvu] σ
  have hF : Fr [15, 16, 17, 18, 19, 20, 21, 22, 23, 24, 25, 26, 27, 44] [] σ σ := Fr.rf
  refine hX 400 0 _ _ ?_
  have hb0 : 0 ≤ σ 2 0 ∧ σ 2 0 ≤ 13 := hp0.1.1.1
  have hb1 : 0 ≤ σ 2 1 ∧ σ 2 1 ≤ 6 := hp0.1.1.2.1
  have hb8 : 0 ≤ σ 2 8 ∧ σ 2 8 ≤ σ 2 9 ∧ σ 2 9 ≤ 52 := hp0.1.1.2.2.1
  have hb9 : 0 ≤ σ 11 2 ∧ σ 11 2 ≤ 52 := hp0.1.2.2.2
  refine sX10_areGames (σ := σ) (i := 0) (j := j) (n := n) (show JG (xsel [2, 3, 4, 5, 6, 7, 8, 9, 10, 11, 12, 13, 14] σ) from hp0) (fun r1 p1 => ?_)
  have p1 : (r1 = 1 ∧ n ≤ 30) ∨ (r1 = 0 ∧ (0 : Int) ≤ 0) := p1
  refine And.intro (fun c2 => ?_) (fun c2 => ?_)
  · replace p1 : n ≤ 30 := by
      rcases p1 with q | q
      · exact q.2
      · exact absurd q.1 (by omega)
    refine And.intro (Nat.le_of_ble_eq_true rfl) ?_
    show xw _ _ _ _ _ _ _ _ _ _ [xvr 0, xvi j, xvi n, xvi seed, xvi 0, xvu, xvu, xvu] _ _
    refine And.intro (Nat.le_of_ble_eq_true rfl) ?_
    show xw _ _ _ _ _ _ _ _ _ _ [xvr 0, xvi j, xvi n, xvi seed, xvi 0, xvi (-1), xvu, xvu] _ _
    refine And.intro (Nat.le_of_ble_eq_true rfl) ?_
    show xw _ _ _ _ _ _ _ _ _ _ [xvr 0, xvi j, xvi n, xvi seed, xvi 0, xvi (-1), xvi 0, xvu] _ _
    have lp_21 : ∀ (m21 : Nat) (best : Int) (most : Int) (rule : Int) (u3_7 : xV) (s1 : xS), ((4 - rule).toNat) = m21 → (Fr [15, 16, 17, 18, 19, 20, 21, 22, 23, 24, 25, 26, 27, 44] [] σ s1 ∧ 0 ≤ rule) → X 21 [xvr 0, xvi j, xvi n, xvi seed, xvi best, xvi most, xvi rule, u3_7] s1 := by
      intro m21
      induction m21 using Nat.strongRecOn with
      | _ m21 ih_21 =>
      intro best most rule u3_7 s1 hm_21 hv_21
      obtain ⟨hF, hv_21⟩ := hv_21
      refine hX 400 21 _ _ ?_
      refine And.intro (fun c4 => ?_) (fun c4 => ?_)
      · refine And.intro rfl ?_
        exact hQ _ _ hF
      · refine sX10_playGames (σ := s1) (i := rule) (j := j) (n := n) (seed := seed) (ak := 0) (show JG (xsel [2, 3, 4, 5, 6, 7, 8, 9, 10, 11, 12, 13, 14] s1) from (hp0.fr2 hF (by decide))) (show n ≤ 30 from by omega) (fun r5 σ5 f5 => ?_)
        have hF := hF.tr f5 (by decide) (by decide)
        refine And.intro (Nat.le_of_ble_eq_true rfl) ?_
        show xw _ _ _ _ _ _ _ _ _ _ [xvr 0, xvi j, xvi n, xvi seed, xvi best, xvi most, xvi rule, xvi r5] _ _
        have lp_54 : ∀ (best2 : Int) (most2 : Int), (True) → X 54 [xvr 0, xvi j, xvi n, xvi seed, xvi best2, xvi most2, xvi rule, xvi r5] σ5 := by
          intro best2 most2 hv_54
          refine hX 400 54 _ _ ?_
          intro z7 t7 e7 l7 h7
          try have w7 : t7 = 0 := by omega
          show xw _ _ _ _ _ _ _ _ _ _ [xvr 0, xvi j, xvi n, xvi seed, xvi best2, xvi most2, xvi z7, xvi r5] _ _
          exact ih_21 _ (show (4 - z7).toNat < m21 from by omega) best2 most2 z7 (xvi r5) σ5 rfl ⟨hF, by omega⟩
        refine And.intro (fun c8 => ?_) (fun c8 => ?_)
        · exact lp_54 best most (show True from by first | trivial | omega | (refine ⟨by assumption, ?_⟩; omega) | (refine ⟨?_, ?_⟩ <;> omega))
        · refine And.intro (Nat.le_of_ble_eq_true rfl) ?_
          show xw _ _ _ _ _ _ _ _ _ _ [xvr 0, xvi j, xvi n, xvi seed, xvi best, xvi r5, xvi rule, xvi r5] _ _
          refine And.intro (Nat.le_of_ble_eq_true rfl) ?_
          show xw _ _ _ _ _ _ _ _ _ _ [xvr 0, xvi j, xvi n, xvi seed, xvi rule, xvi r5, xvi rule, xvi r5] _ _
          exact lp_54 rule r5 (show True from by first | trivial | omega | (refine ⟨by assumption, ?_⟩; omega) | (refine ⟨?_, ?_⟩ <;> omega))
    exact lp_21 _ 0 (-1) 0 (xvu) σ rfl ⟨hF, by omega⟩
  · replace p1 : (0 : Int) ≤ 0 := by
      rcases p1 with q | q
      · exact absurd q.1 (by omega)
      · exact q.2
    refine And.intro rfl ?_
    exact hQ _ _ hF
