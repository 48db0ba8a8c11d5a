set_option maxHeartbeats 4000000 in
set_option maxRecDepth 100000 in
theorem sX4_takeSlots {σ : xS} {o : Int} {Q : Option xV → xS → Prop} (hp0 : CG (xsel [8, 9, 10, 11, 12, 13, 14, 15, 16, 17, 18, 19, 20] σ)) (hQ : ∀ r : Int, ∀ σ' : xS, Fr [1, 2] [2] σ σ' → ((r = 1 ∧ 0 ≤ σ' 0 2 ∧ σ' 0 2 ≤ 12) ∨ (r = 0 ∧ (0 : Int) ≤ 0)) → Q (some (xvi r)) σ') : xT kX4_takeSlots [xvr 0, xvr 8, xvi o] σ Q := by
  refine ⟨Nat.le_of_ble_eq_true rfl, fun X hX => ?_⟩
  show X 0 [xvr 0, xvr 8, xvi o, xvu, xvu] σ
  have hF : Fr [1, 2] [2] σ σ := Fr.rf
  refine hX 400 0 _ _ ?_
  have hC := hp0; have hb0 : 0 ≤ σ 8 0 ∧ σ 8 0 ≤ 13 := hp0.1.1; have hb1 : 0 ≤ σ 8 1 ∧ σ 8 1 ≤ 6 := hp0.1.2.1; have hb3 : 0 ≤ σ 8 8 ∧ σ 8 8 ≤ σ 8 9 ∧ σ 8 9 ≤ 52 := hp0.1.2.2.1; have hz9 : 0 ≤ σ 17 2 ∧ σ 17 2 ≤ 52 := hp0.2.2.2
  have hF := hF.p (j := 2) (v := 0) (by decide)
  refine And.intro (Nat.le_of_ble_eq_true rfl) ?_
  show xw _ _ _ _ _ _ _ _ _ _ [xvr 0, xvr 8, xvi o, xvi 0, xvu] _ _
  have lp_7 : ∀ (m7 : Nat) (i : Int) (u2_4 : xV) (s1 : xS), ((52 - i).toNat) = m7 → (Fr [1, 2] [2] σ s1 ∧ (0 ≤ s1 0 2 ∧ s1 0 2 ≤ 12) ∧ 0 ≤ i) → X 7 [xvr 0, xvr 8, xvi o, xvi i, u2_4] s1 := by
    intro m7
    induction m7 using Nat.strongRecOn with
    | _ m7 ih_7 =>
    intro i u2_4 s1 hm_7 hv_7
    obtain ⟨hF, hsl, hv_7⟩ := hv_7
    have k92 : s1 17 2 = σ 17 2 := congrFun (hF.1 17 (by decide) (by decide)) 2
    refine hX 400 7 _ _ ?_
    refine xMVp (sh := shO) (ci := 3) (τ := [8, 9, 10, 11, 12, 13, 14, 15, 16, 17, 18, 19, 20]) (E := xT kX3_countOthers) (t := 17) (r := []) (σ := s1) rfl rfl xbk_sel (fun Q3 hQ3 => sX3_countOthers (σ := xsel [8, 9, 10, 11, 12, 13, 14, 15, 16, 17, 18, 19, 20] s1)   (fun r3 p3 => hQ3 _ ?_))
    have p3 : r3 = (s1 17 2) := p3
    refine And.intro (fun c4 => ?_) (fun c4 => ?_)
    · refine And.intro rfl ?_
      refine And.intro (by omega) ?_
      exact hQ _ _ hF (Or.inl ⟨rfl, by omega, by omega⟩)
    · refine xMVp (sh := shO) (ci := 3) (τ := [8, 9, 10, 11, 12, 13, 14, 15, 16, 17, 18, 19, 20]) (E := xT kX3_ownerAt) (t := 17) (r := [xvi i]) (σ := s1) rfl rfl xbk_sel (fun Q5 hQ5 => sX3_ownerAt (σ := xsel [8, 9, 10, 11, 12, 13, 14, 15, 16, 17, 18, 19, 20] s1) (i := i) (show 0 ≤ (s1 17 2) ∧ (s1 17 2) ≤ 52 from by omega) (fun r5 => hQ5 _ ?_))
      refine And.intro (Nat.le_of_ble_eq_true rfl) ?_
      show xw _ _ _ _ _ _ _ _ _ _ [xvr 0, xvr 8, xvi o, xvi i, xvi r5] _ _
      refine And.intro (fun c6 => ?_) (fun c6 => ?_)
      · refine hX 400 83 _ _ ?_
        intro z7 t7 e7 l7 h7
        try have w7 : t7 = 0 := by omega
        show xw _ _ _ _ _ _ _ _ _ _ [xvr 0, xvr 8, xvi o, xvi z7, xvi r5] _ _
        exact ih_7 _ (show (52 - z7).toNat < m7 from by omega) z7 (xvi r5) s1 rfl ⟨hF, (show 0 ≤ s1 0 2 ∧ s1 0 2 ≤ 12 from by omega), by omega⟩
      · intro v8 e8 l8 h8
        have e8 : v8 = s1 0 2 := e8
        refine And.intro (fun c9 => ?_) (fun c9 => ?_)
        · intro v10 e10 l10 h10
          have e10 : v10 = s1 0 2 := e10
          refine And.intro (rfl) (And.intro (⟨by omega, by omega⟩) ?_)
          have hF := hF.pt (t := 1) (j := v10.toNat) (v := r5) (by decide) (by decide)
          intro v12 e12 l12 h12
          have e12 : v12 = s1 0 2 := e12
          refine xMVp (sh := shO) (ci := 3) (τ := [8, 9, 10, 11, 12, 13, 14, 15, 16, 17, 18, 19, 20]) (E := xT kX3_barredAt) (t := 17) (r := [xvi i]) (σ := (xput s1 1 v10.toNat r5)) rfl rfl xbk_sel (fun Q13 hQ13 => sX3_barredAt (σ := xsel [8, 9, 10, 11, 12, 13, 14, 15, 16, 17, 18, 19, 20] (xput s1 1 v10.toNat r5)) (i := i) (show 0 ≤ (s1 17 2) ∧ (s1 17 2) ≤ 52 from by omega) (fun r13 => hQ13 _ ?_))
          refine And.intro (rfl) (And.intro (⟨by omega, by omega⟩) ?_)
          have hF := hF.pt (t := 2) (j := v12.toNat) (v := r13) (by decide) (by decide)
          intro v15 e15 l15 h15
          have e15 : v15 = s1 0 2 := e15
          intro z16 t16 e16 l16 h16
          try have w16 : t16 = 0 := by omega
          have hF := hF.p (j := 2) (v := z16) (by decide)
          refine hX 400 83 _ _ ?_
          intro z18 t18 e18 l18 h18
          try have w18 : t18 = 0 := by omega
          show xw _ _ _ _ _ _ _ _ _ _ [xvr 0, xvr 8, xvi o, xvi z18, xvi r5] _ _
          exact ih_7 _ (show (52 - z18).toNat < m7 from by omega) z18 (xvi r5) (xput (xput (xput s1 1 v10.toNat r5) 2 v12.toNat r13) 0 2 z16) rfl ⟨hF, (show 0 ≤ z16 ∧ z16 ≤ 12 from by omega), by omega⟩
        · refine And.intro rfl ?_
          refine And.intro (by omega) ?_
          exact hQ _ _ hF (Or.inr ⟨by omega, by omega⟩)
  exact lp_7 _ 0 (xvu) (xput σ 0 2 0) rfl ⟨hF, (show (0 : Int) ≤ 0 ∧ (0 : Int) ≤ 12 from by omega), by omega⟩
set_option maxHeartbeats 4000000 in
set_option maxRecDepth 100000 in
theorem sX4_takeKinds {σ : xS} {o : Int} {Q : Option xV → xS → Prop} (hp0 : CG (xsel [8, 9, 10, 11, 12, 13, 14, 15, 16, 17, 18, 19, 20] σ)) (hp1 : 0 ≤ o ∧ o ≤ 5) (hQ : ∀ r : Int, ∀ σ' : xS, Fr [3, 4] [5] σ σ' → ((r = 1 ∧ (0 ≤ σ' 0 5 ∧ σ' 0 5 ≤ 6) ∧ (∀ i : Nat, (i : Int) < σ' 0 5 → 1 ≤ σ' 4 i ∧ σ' 4 i ≤ 4)) ∨ (r = 0 ∧ (0 : Int) ≤ 0)) → Q (some (xvi r)) σ') : xT kX4_takeKinds [xvr 0, xvr 8, xvi o] σ Q := by
  refine ⟨Nat.le_of_ble_eq_true rfl, fun X hX => ?_⟩
  show X 0 [xvr 0, xvr 8, xvi o, xvu, xvu, xvu] σ
  have hF : Fr [3, 4] [5] σ σ := Fr.rf
  refine hX 400 0 _ _ ?_
  have hC := hp0; have hb0 : 0 ≤ σ 8 0 ∧ σ 8 0 ≤ 13 := hp0.1.1; have hb1 : 0 ≤ σ 8 1 ∧ σ 8 1 ≤ 6 := hp0.1.2.1; have hb3 : 0 ≤ σ 8 8 ∧ σ 8 8 ≤ σ 8 9 ∧ σ 8 9 ≤ 52 := hp0.1.2.2.1; have hz9 : 0 ≤ σ 17 2 ∧ σ 17 2 ≤ 52 := hp0.2.2.2
  have hF := hF.p (j := 5) (v := 0) (by decide)
  refine And.intro (Nat.le_of_ble_eq_true rfl) ?_
  show xw _ _ _ _ _ _ _ _ _ _ [xvr 0, xvr 8, xvi o, xvi 0, xvu, xvu] _ _
  have lp_7 : ∀ (m7 : Nat) (kind : Int) (u2_4 : xV) (u2_5 : xV) (s1 : xS), ((13 - kind).toNat) = m7 → (Fr [3, 4] [5] σ s1 ∧ (∀ i : Nat, (i : Int) < s1 0 5 → 1 ≤ s1 4 i ∧ s1 4 i ≤ 4) ∧ (0 ≤ s1 0 5 ∧ s1 0 5 ≤ 6) ∧ 0 ≤ kind) → X 7 [xvr 0, xvr 8, xvi o, xvi kind, u2_4, u2_5] s1 := by
    intro m7
    induction m7 using Nat.strongRecOn with
    | _ m7 ih_7 =>
    intro kind u2_4 u2_5 s1 hm_7 hv_7
    obtain ⟨hF, hK, hun, hv_7⟩ := hv_7
    have h8s : s1 8 = σ 8 := hF.1 8 (by decide) (by decide)
    have h10s : s1 10 = σ 10 := hF.1 10 (by decide) (by decide)
    have h12s : s1 12 = σ 12 := hF.1 12 (by decide) (by decide)
    have h18s : s1 18 = σ 18 := hF.1 18 (by decide) (by decide)
    have q0 := congrFun h8s 0; have q1 := congrFun h8s 1; have q8 := congrFun h8s 8; have q9 := congrFun h8s 9
    refine hX 400 7 _ _ ?_
    intro v3 e3 l3 h3
    have e3 : v3 = s1 8 0 := e3
    refine And.intro (fun c4 => ?_) (fun c4 => ?_)
    · refine And.intro rfl ?_
      refine And.intro (by omega) ?_
      exact hQ _ _ hF (Or.inl ⟨rfl, hun, hK⟩)
    · refine xMVp (sh := shO) (ci := 2) (τ := [8, 9, 10, 11, 12, 13, 14, 15, 16, 17, 18, 19, 20]) (E := xT kX2_inHands) (t := 8) (r := [xvi kind]) (σ := s1) rfl rfl xbk_sel (fun Q5 hQ5 => sX2_inHands (σ := xsel [8, 9, 10, 11, 12, 13, 14, 15, 16, 17, 18, 19, 20] s1) (kind := kind) (show 0 ≤ (s1 8 1) ∧ (s1 8 1) ≤ 6 from by omega) (show ∀ p k, p < 6 → k < 13 → 0 ≤ s1 10 (13 * p + k) ∧ s1 10 (13 * p + k) ≤ 4 from fun p k hp hk => (by show 0 ≤ s1 10 (13 * p + k) ∧ s1 10 (13 * p + k) ≤ 4; rw [h10s]; exact hp0.2.1.1.h4 hp0.2.1.2 hp hk)) (show 0 ≤ kind ∧ kind ≤ 12 from by omega) (fun r5 p5 => hQ5 _ ?_))
      have p5 : 0 ≤ r5 ∧ r5 ≤ sm 6 (fun p => s1 10 (13 * p + kind.toNat)) := p5
      have hih : 0 ≤ r5 ∧ r5 ≤ sm 6 (fun p => σ 10 (13 * p + kind.toNat)) := by rw [← h10s]; exact p5
      refine xMVp (sh := shO) (ci := 2) (τ := [8, 9, 10, 11, 12, 13, 14, 15, 16, 17, 18, 19, 20]) (E := xT kX2_inHeap) (t := 8) (r := [xvi kind]) (σ := s1) rfl rfl xbk_sel (fun Q6 hQ6 => sX2_inHeap (σ := xsel [8, 9, 10, 11, 12, 13, 14, 15, 16, 17, 18, 19, 20] s1) (kind := kind) (show 0 ≤ (s1 8 8) ∧ (s1 8 8) ≤ (s1 8 9) ∧ (s1 8 9) ≤ 52 from by omega) (show 0 ≤ kind ∧ kind ≤ 12 from by omega) (fun r6 p6 => hQ6 _ ?_))
      have p6 : 0 ≤ r6 ∧ r6 ≤ gcf (s1 12) ((s1 8 8)) ((s1 8 9)) kind.toNat := p6
      have hip : 0 ≤ r6 ∧ r6 ≤ gcf (σ 12) (σ 8 8) (σ 8 9) kind.toNat := by rw [← h12s, ← q8, ← q9]; exact p6
      have hgs : sm 6 (fun p => σ 10 (13 * p + kind.toNat)) + gcf (σ 12) (σ 8 8) (σ 8 9) kind.toNat ≤ 4 := hp0.2.1.2 kind.toNat (by omega)
      intro z7 t7 e7 l7 h7
      try have w7 : t7 = 0 := by omega
      refine xMVp (sh := shO) (ci := 2) (τ := [8, 9, 10, 11, 12, 13, 14, 15, 16, 17, 18, 19, 20]) (E := xT kX2_held) (t := 8) (r := [xvi o, xvi kind]) (σ := s1) rfl rfl xbk_sel (fun Q8 hQ8 => sX2_held (σ := xsel [8, 9, 10, 11, 12, 13, 14, 15, 16, 17, 18, 19, 20] s1) (p := o) (kind := kind) (show 0 ≤ o ∧ o ≤ 5 from by omega) (show 0 ≤ kind ∧ kind ≤ 12 from by omega) (fun r8 p8 => hQ8 _ ?_))
      have p8 : r8 = s1 10 (13 * o + kind).toNat := p8
      have hhe : 0 ≤ r8 ∧ r8 ≤ 4 := by rw [p8, h10s]; exact hp0.hI (p := o) (kind := kind) (by omega) (by omega)
      intro z9 t9 e9 l9 h9
      try have w9 : t9 = 0 := by omega
      refine And.intro (Nat.le_of_ble_eq_true rfl) ?_
      show xw _ _ _ _ _ _ _ _ _ _ [xvr 0, xvr 8, xvi o, xvi kind, xvi z9, u2_5] _ _
      refine And.intro (Nat.le_of_ble_eq_true rfl) ?_
      show xw _ _ _ _ _ _ _ _ _ _ [xvr 0, xvr 8, xvi o, xvi kind, xvi z9, xvi 0] _ _
      have lp_38 : ∀ (m38 : Nat) (left : Int) (p : Int), ((6 - p).toNat) = m38 → (-50 - 5 * p ≤ left ∧ left ≤ 4 ∧ 0 ≤ p ∧ p ≤ 6) → X 38 [xvr 0, xvr 8, xvi o, xvi kind, xvi left, xvi p] s1 := by
        intro m38
        induction m38 using Nat.strongRecOn with
        | _ m38 ih_38 =>
        intro left p hm_38 hv_38
        refine hX 400 38 _ _ ?_
        intro v11 e11 l11 h11
        have e11 : v11 = s1 8 1 := e11
        refine And.intro (fun c12 => ?_) (fun c12 => ?_)
        · refine And.intro (fun c13 => ?_) (fun c13 => ?_)
          · refine hX 400 125 _ _ ?_
            intro z14 t14 e14 l14 h14
            try have w14 : t14 = 0 := by omega
            show xw _ _ _ _ _ _ _ _ _ _ [xvr 0, xvr 8, xvi o, xvi z14, xvi left, xvi p] _ _
            exact ih_7 _ (show (13 - z14).toNat < m7 from by omega) z14 (xvi left) (xvi p) s1 rfl ⟨hF, hK, (show 0 ≤ s1 0 5 ∧ s1 0 5 ≤ 6 from by omega), by omega⟩
          · intro v15 e15 l15 h15
            have e15 : v15 = s1 0 5 := e15
            refine And.intro (fun c16 => ?_) (fun c16 => ?_)
            · intro v17 e17 l17 h17
              have e17 : v17 = s1 0 5 := e17
              refine And.intro (rfl) (And.intro (⟨by omega, by omega⟩) ?_)
              have hF := hF.pt (t := 3) (j := v17.toNat) (v := kind) (by decide) (by decide)
              intro v19 e19 l19 h19
              have e19 : v19 = s1 0 5 := e19
              refine And.intro (rfl) (And.intro (⟨by omega, by omega⟩) ?_)
              have hF := hF.pt (t := 4) (j := v19.toNat) (v := left) (by decide) (by decide)
              intro v21 e21 l21 h21
              have e21 : v21 = s1 0 5 := e21
              intro z22 t22 e22 l22 h22
              try have w22 : t22 = 0 := by omega
              have hF := hF.p (j := 5) (v := z22) (by decide)
              refine hX 400 125 _ _ ?_
              intro z24 t24 e24 l24 h24
              try have w24 : t24 = 0 := by omega
              show xw _ _ _ _ _ _ _ _ _ _ [xvr 0, xvr 8, xvi o, xvi z24, xvi left, xvi p] _ _
              exact ih_7 _ (show (13 - z24).toNat < m7 from by omega) z24 (xvi left) (xvi p) (xput (xput (xput s1 3 v17.toNat kind) 4 v19.toNat left) 0 5 z22) rfl ⟨hF, (fun q hq => by
                            have hq : (q : Int) < z22 := hq
                            show 1 ≤ xput _ 4 v19.toNat left 4 q ∧ xput _ 4 v19.toNat left 4 q ≤ 4
                            by_cases e : q = (s1 0 5).toNat
                            · rw [show q = v19.toNat from by omega, xput_s]; omega
                            · rw [xput_o (by omega)]; exact hK q (by omega)), (show 0 ≤ z22 ∧ z22 ≤ 6 from by omega), by omega⟩
            · refine And.intro rfl ?_
              refine And.intro (by omega) ?_
              exact hQ _ _ hF (Or.inr ⟨by omega, by omega⟩)
        · refine And.intro (fun c25 => ?_) (fun c25 => ?_)
          · refine xMVp (sh := shO) (ci := 3) (τ := [8, 9, 10, 11, 12, 13, 14, 15, 16, 17, 18, 19, 20]) (E := xT kX3_sureOf) (t := 17) (r := [xvi p, xvi kind]) (σ := s1) rfl rfl xbk_sel (fun Q26 hQ26 => sX3_sureOf (σ := xsel [8, 9, 10, 11, 12, 13, 14, 15, 16, 17, 18, 19, 20] s1) (p := p) (kind := kind) (show 0 ≤ p ∧ p ≤ 5 from by omega) (show 0 ≤ kind ∧ kind ≤ 12 from by omega) (fun r26 p26 => hQ26 _ ?_))
            have p26 : r26 = s1 18 (13 * p + kind).toNat := p26
            have hsu : 0 ≤ r26 ∧ r26 ≤ 5 := by
              have a := hp0.uI (p := p) (kind := kind) (by omega) (by omega)
              have b := hp0.hI (p := p) (kind := kind) (by omega) (by omega)
              rw [p26, h18s]
              show 0 ≤ (xsel [8, 9, 10, 11, 12, 13, 14, 15, 16, 17, 18, 19, 20] σ) 10 (13 * p + kind).toNat ∧ (xsel [8, 9, 10, 11, 12, 13, 14, 15, 16, 17, 18, 19, 20] σ) 10 (13 * p + kind).toNat ≤ 5
              omega
            intro z27 t27 e27 l27 h27
            try have w27 : t27 = 0 := by omega
            refine And.intro (Nat.le_of_ble_eq_true rfl) ?_
            show xw _ _ _ _ _ _ _ _ _ _ [xvr 0, xvr 8, xvi o, xvi kind, xvi z27, xvi p] _ _
            intro z28 t28 e28 l28 h28
            try have w28 : t28 = 0 := by omega
            show xw _ _ _ _ _ _ _ _ _ _ [xvr 0, xvr 8, xvi o, xvi kind, xvi z27, xvi z28] _ _
            exact ih_38 _ (show (6 - z28).toNat < m38 from by omega) z27 z28 rfl (show -50 - 5 * z28 ≤ z27 ∧ z27 ≤ 4 ∧ 0 ≤ z28 ∧ z28 ≤ 6 from by first | trivial | omega | (refine ⟨by assumption, ?_⟩; omega) | (refine ⟨?_, ?_⟩ <;> omega))
          · intro z29 t29 e29 l29 h29
            try have w29 : t29 = 0 := by omega
            refine And.intro (Nat.le_of_ble_eq_true rfl) ?_
            show xw _ _ _ _ _ _ _ _ _ _ [xvr 0, xvr 8, xvi o, xvi kind, xvi z29, xvi p] _ _
            intro z30 t30 e30 l30 h30
            try have w30 : t30 = 0 := by omega
            show xw _ _ _ _ _ _ _ _ _ _ [xvr 0, xvr 8, xvi o, xvi kind, xvi z29, xvi z30] _ _
            exact ih_38 _ (show (6 - z30).toNat < m38 from by omega) z29 z30 rfl (show -50 - 5 * z30 ≤ z29 ∧ z29 ≤ 4 ∧ 0 ≤ z30 ∧ z30 ≤ 6 from by first | trivial | omega | (refine ⟨by assumption, ?_⟩; omega) | (refine ⟨?_, ?_⟩ <;> omega))
      exact lp_38 _ z9 0 rfl (show -50 - 5 * 0 ≤ z9 ∧ z9 ≤ 4 ∧ 0 ≤ 0 ∧ 0 ≤ 6 from by first | trivial | omega | (refine ⟨by assumption, ?_⟩; omega) | (refine ⟨?_, ?_⟩ <;> omega))
  exact lp_7 _ 0 (xvu) (xvu) (xput σ 0 5 0) rfl ⟨hF, (fun q hq => by have hq : (q : Int) < 0 := hq; omega), (show (0 : Int) ≤ 0 ∧ (0 : Int) ≤ 6 from by omega), by omega⟩
