set_option maxHeartbeats 4000000 in
set_option maxRecDepth 100000 in
theorem sX4_waysWithSome {σ : xS} {q kind : Int} {Q : Option xV → xS → Prop} (hp0 : CG (xsel [8, 9, 10, 11, 12, 13, 14, 15, 16, 17, 18, 19, 20] σ)) (hp1 : 0 ≤ q ∧ q ≤ 5) (hp2 : 0 ≤ kind ∧ kind ≤ 12) (hp3 : 0 ≤ σ 0 2 ∧ σ 0 2 ≤ 12) (hp4 : 0 ≤ σ 0 5 ∧ σ 0 5 ≤ 6) (hp5 : ∀ i : Nat, (i : Int) < σ 0 5 → 1 ≤ σ 4 i ∧ σ 4 i ≤ 4) (hQ : ∀ r : Int, ∀ σ' : xS, Fr [5, 6, 7] [] σ σ' → Q (some (xvl r)) σ') : xT kX4_waysWithSome [xvr 0, xvr 8, xvi q, xvi kind] σ Q := by
  refine ⟨Nat.le_of_ble_eq_true rfl, fun X hX => ?_⟩
  show X 0 [xvr 0, xvr 8, xvi q, xvi kind] σ
  have hF : Fr [5, 6, 7] [] σ σ := Fr.rf
  refine hX 400 0 _ _ ?_
  have hb0 : 0 ≤ σ 8 0 ∧ σ 8 0 ≤ 13 := hp0.1.1; have hb1 : 0 ≤ σ 8 1 ∧ σ 8 1 ≤ 6 := hp0.1.2.1; have hz9 : 0 ≤ σ 17 2 ∧ σ 17 2 ≤ 52 := hp0.2.2.2
  refine xMVp (sh := shO) (ci := 3) (τ := [8, 9, 10, 11, 12, 13, 14, 15, 16, 17, 18, 19, 20]) (E := xT kX3_sureOf) (t := 17) (r := [xvi q, xvi kind]) (σ := σ) rfl rfl xbk_sel (fun Q1 hQ1 => sX3_sureOf (σ := xsel [8, 9, 10, 11, 12, 13, 14, 15, 16, 17, 18, 19, 20] σ) (p := q) (kind := kind) (show 0 ≤ q ∧ q ≤ 5 from by omega) (show 0 ≤ kind ∧ kind ≤ 12 from by omega) (fun r1 p1 => hQ1 _ ?_))
  have p1 : r1 = σ 18 (13 * q + kind).toNat := p1
  refine And.intro (fun c2 => ?_) (fun c2 => ?_)
  · have lp_38 : ∀ (_ : Unit), (True) → X 38 [xvr 0, xvr 8, xvi q, xvi kind] σ := by
      intro _ hv_38
      refine hX 400 38 _ _ ?_
      refine And.intro rfl (And.intro rfl ?_)
      exact hQ _ _ hF 
    refine xMVp (sh := shO) (ci := 4) (τ := [0, 1, 2, 3, 4, 5, 6, 7]) (E := xT kX4_indexOfKind) (t := 0) (r := [xvi kind]) (σ := σ) rfl rfl xbk_sel (fun Q4 hQ4 => sX4_indexOfKind (σ := xsel [0, 1, 2, 3, 4, 5, 6, 7] σ) (kind := kind) (show 0 ≤ (σ 0 5) ∧ (σ 0 5) ≤ 6 from by omega) (fun r4 p4 => hQ4 _ ?_))
    have p4 : r4 = -1 ∨ (0 ≤ r4 ∧ r4 < (σ 0 5)) := p4
    refine And.intro (fun c5 => ?_) (fun c5 => ?_)
    · exact lp_38 () (show True from by first | trivial | omega | (refine ⟨by assumption, ?_⟩; omega) | (refine ⟨?_, ?_⟩ <;> omega))
    · refine xMVp (sh := shO) (ci := 3) (τ := [8, 9, 10, 11, 12, 13, 14, 15, 16, 17, 18, 19, 20]) (E := xT kX3_mayBe) (t := 17) (r := [xvi q, xvi kind]) (σ := σ) rfl rfl xbk_sel (fun Q6 hQ6 => sX3_mayBe (σ := xsel [8, 9, 10, 11, 12, 13, 14, 15, 16, 17, 18, 19, 20] σ) (p := q) (kind := kind) (show 0 ≤ (σ 17 2) ∧ (σ 17 2) ≤ 52 from by omega) (fun r6 => hQ6 _ ?_))
      refine And.intro (fun c7 => ?_) (fun c7 => ?_)
      · intro v8 e8 l8 h8
        have e8 : v8 = σ 0 9 := e8
        refine xMVf (sh := shO) (ci := 4) (τ := [0, 1, 2, 3, 4, 5, 6, 7]) (E := xT kX4_countWays) (t := 0) (r := [xvi q, xvi kind]) (σ := σ) rfl rfl (fun Q9 hQ9 => sX4_countWays (σ := xsel [0, 1, 2, 3, 4, 5, 6, 7] σ) (person := q) (kind := kind) (show 0 ≤ (σ 0 5) ∧ (σ 0 5) ≤ 6 from by omega) (show ∀ i : Nat, (i : Int) < (σ 0 5) → 0 ≤ σ 4 i ∧ σ 4 i ≤ 4 from fun i hi => (by have z := hp5 i hi; exact ⟨by omega, z.2⟩)) (show 0 ≤ (σ 0 2) ∧ (σ 0 2) ≤ 12 from by omega) (fun r9 ς9 f9 => hQ9 _ _ ?_))
        replace f9 : Fr [5, 6, 7] [] σ (xbk [0, 1, 2, 3, 4, 5, 6, 7] σ ς9) := f9.bk0 (by decide) (by decide) (by decide)
        generalize xbk [0, 1, 2, 3, 4, 5, 6, 7] σ ς9 = σ9 at f9  ⊢
        have hF := hF.tr f9 (by decide) (by decide)
        intro z10 t10 e10 l10 h10
        try have w10 : t10 = 0 := by omega
        refine And.intro rfl (And.intro rfl ?_)
        exact hQ _ _ hF 
      · exact lp_38 () (show True from by first | trivial | omega | (refine ⟨by assumption, ?_⟩; omega) | (refine ⟨?_, ?_⟩ <;> omega))
  · intro v11 e11 l11 h11
    have e11 : v11 = σ 0 9 := e11
    refine And.intro rfl (And.intro rfl ?_)
    exact hQ _ _ hF 
set_option maxHeartbeats 4000000 in
set_option maxRecDepth 100000 in
theorem sX4_waysDrawn {σ : xS} {kind : Int} {Q : Option xV → xS → Prop} (hp0 : 0 ≤ σ 0 2 ∧ σ 0 2 ≤ 12) (hp1 : 0 ≤ σ 0 5 ∧ σ 0 5 ≤ 6) (hp2 : ∀ i : Nat, (i : Int) < σ 0 5 → 1 ≤ σ 4 i ∧ σ 4 i ≤ 4) (hQ : ∀ r : Int, ∀ σ' : xS, Fr [4, 5, 6, 7] [] σ σ' → Q (some (xvl r)) σ') : xT kX4_waysDrawn [xvr 0, xvi kind] σ Q := by
  refine ⟨Nat.le_of_ble_eq_true rfl, fun X hX => ?_⟩
  show X 0 [xvr 0, xvi kind, xvu, xvu, xvu, xvu, xvu] σ
  have hF : Fr [4, 5, 6, 7] [] σ σ := Fr.rf
  refine hX 400 0 _ _ ?_
  refine sX4_indexOfKind (σ := σ) (kind := kind) (show 0 ≤ (σ 0 5) ∧ (σ 0 5) ≤ 6 from by omega) (fun r1 p1 => ?_)
  have p1 : r1 = -1 ∨ (0 ≤ r1 ∧ r1 < (σ 0 5)) := p1
  refine And.intro (Nat.le_of_ble_eq_true rfl) ?_
  show xw _ _ _ _ _ _ _ _ _ _ [xvr 0, xvi kind, xvi r1, xvu, xvu, xvu, xvu] _ _
  refine And.intro (fun c2 => ?_) (fun c2 => ?_)
  · refine And.intro (rfl) (And.intro (⟨by omega, by omega⟩) ?_)
    intro v3 e3 l3 h3
    have e3 : v3 = σ 4 r1.toNat := e3
    have hriv3 := hp2 r1.toNat (by omega)
    rw [← e3] at hriv3
    refine And.intro (Nat.le_of_ble_eq_true rfl) ?_
    show xw _ _ _ _ _ _ _ _ _ _ [xvr 0, xvi kind, xvi r1, xvl v3, xvu, xvu, xvu] _ _
    refine And.intro (rfl) (And.intro (⟨by omega, by omega⟩) ?_)
    intro v4 e4 l4 h4
    have e4 : v4 = σ 4 r1.toNat := e4
    have hriv4 := hp2 r1.toNat (by omega)
    rw [← e4] at hriv4
    intro z5 t5 e5 l5 h5
    try have w5 : t5 = 0 := by omega
    refine And.intro (rfl) (And.intro (⟨by omega, by omega⟩) ?_)
    have hF := hF.pt (t := 4) (j := r1.toNat) (v := z5) (by decide) (by decide)
    refine sX4_countWays (σ := (xput σ 4 r1.toNat z5)) (person := -1) (kind := 0) (show 0 ≤ σ 0 5 ∧ σ 0 5 ≤ 6 from by omega) (fun q hq => (by
        have hq : (q : Int) < σ 0 5 := hq
        show 0 ≤ xput σ 4 r1.toNat z5 4 q ∧ xput σ 4 r1.toNat z5 4 q ≤ 4
        by_cases e : q = r1.toNat
        · rw [e, xput_s]; omega
        · rw [xput_o e]; have z := hp2 q hq; omega)) (show 0 ≤ σ 0 2 ∧ σ 0 2 ≤ 12 from by omega) (fun r7 σ7 f7 => ?_)
    have hF := hF.tr f7 (by decide) (by decide)
    intro z8 t8 e8 l8 h8
    try have w8 : t8 = 0 := by omega
    refine And.intro (Nat.le_of_ble_eq_true rfl) ?_
    show xw _ _ _ _ _ _ _ _ _ _ [xvr 0, xvi kind, xvi r1, xvl v3, xvu, xvl z8, xvu] _ _
    refine And.intro (rfl) (And.intro (⟨by omega, by omega⟩) ?_)
    intro v9 e9 l9 h9
    have e9 : v9 = σ7 4 r1.toNat := e9
    intro z10 t10 e10 l10 h10
    try have w10 : t10 = 0 := by omega
    refine And.intro (rfl) (And.intro (⟨by omega, by omega⟩) ?_)
    have hF := hF.pt (t := 4) (j := r1.toNat) (v := z10) (by decide) (by decide)
    refine And.intro rfl (And.intro rfl ?_)
    exact hQ _ _ hF 
  · refine And.intro rfl (And.intro rfl ?_)
    exact hQ _ _ hF 
set_option maxHeartbeats 4000000 in
set_option maxRecDepth 100000 in
theorem sX4_likeliest {σ : xS} {o : Int} {Q : Option xV → xS → Prop} (hp0 : CG (xsel [8, 9, 10, 11, 12, 13, 14, 15, 16, 17, 18, 19, 20] σ)) (hp1 : 0 ≤ o ∧ o ≤ 5) (hp2 : 0 ≤ σ 0 2 ∧ σ 0 2 ≤ 12) (hp3 : 0 ≤ σ 0 5 ∧ σ 0 5 ≤ 6) (hp4 : ∀ i : Nat, (i : Int) < σ 0 5 → 1 ≤ σ 4 i ∧ σ 4 i ≤ 4) (hQ : ∀ r : Int, ∀ σ' : xS, Fr [5, 6, 7] [] σ σ' → Q (some (xvi r)) σ') : xT kX4_likeliest [xvr 0, xvr 8, xvi o] σ Q := by
  refine ⟨Nat.le_of_ble_eq_true rfl, fun X hX => ?_⟩
  show X 0 [xvr 0, xvr 8, xvi o, xvu, xvu, xvu, xvu, xvu, xvu, xvu] σ
  have hF : Fr [5, 6, 7] [] σ σ := Fr.rf
  refine hX 400 0 _ _ ?_
  have hb0 : 0 ≤ σ 8 0 ∧ σ 8 0 ≤ 13 := hp0.1.1; have hb1 : 0 ≤ σ 8 1 ∧ σ 8 1 ≤ 6 := hp0.1.2.1; have hz9 : 0 ≤ σ 17 2 ∧ σ 17 2 ≤ 52 := hp0.2.2.2
  refine And.intro (Nat.le_of_ble_eq_true rfl) ?_
  show xw _ _ _ _ _ _ _ _ _ _ [xvr 0, xvr 8, xvi o, xvi (-1), xvu, xvu, xvu, xvu, xvu, xvu] _ _
  refine And.intro (Nat.le_of_ble_eq_true rfl) ?_
  show xw _ _ _ _ _ _ _ _ _ _ [xvr 0, xvr 8, xvi o, xvi (-1), xvl (-1), xvu, xvu, xvu, xvu, xvu] _ _
  refine And.intro (Nat.le_of_ble_eq_true rfl) ?_
  show xw _ _ _ _ _ _ _ _ _ _ [xvr 0, xvr 8, xvi o, xvi (-1), xvl (-1), xvu, xvi 0, xvu, xvu, xvu] _ _
  have lp_10 : ∀ (m10 : Nat) (best : Int) (most : Int) (q : Int) (u1_7 : xV) (u1_8 : xV) (u1_9 : xV) (s1 : xS), ((6 - q).toNat) = m10 → (Fr [5, 6, 7] [] σ s1 ∧ 0 ≤ q) → X 10 [xvr 0, xvr 8, xvi o, xvi best, xvl most, xvu, xvi q, u1_7, u1_8, u1_9] s1 := by
    intro m10
    induction m10 using Nat.strongRecOn with
    | _ m10 ih_10 =>
    intro best most q u1_7 u1_8 u1_9 s1 hm_10 hv_10
    obtain ⟨hF, hv_10⟩ := hv_10
    have h8s : s1 8 = σ 8 := hF.1 8 (by decide) (by decide)
    have q0 := congrFun h8s 0; have q1 := congrFun h8s 1
    refine hX 400 10 _ _ ?_
    intro v2 e2 l2 h2
    have e2 : v2 = s1 8 1 := e2
    refine And.intro (fun c3 => ?_) (fun c3 => ?_)
    · refine And.intro rfl ?_
      exact hQ _ _ hF 
    · refine And.intro (Nat.le_of_ble_eq_true rfl) ?_
      show xw _ _ _ _ _ _ _ _ _ _ [xvr 0, xvr 8, xvi o, xvi best, xvl most, xvu, xvi q, xvi 0, u1_8, u1_9] _ _
      have lp_22 : ∀ (m22 : Nat) (best2 : Int) (most2 : Int) (kd : Int) (u4_8 : xV) (u4_9 : xV) (s2 : xS), ((13 - kd).toNat) = m22 → (Fr [5, 6, 7] [] σ s2 ∧ 0 ≤ kd) → X 22 [xvr 0, xvr 8, xvi o, xvi best2, xvl most2, xvu, xvi q, xvi kd, u4_8, u4_9] s2 := by
        intro m22
        induction m22 using Nat.strongRecOn with
        | _ m22 ih_22 =>
        intro best2 most2 kd u4_8 u4_9 s2 hm_22 hv_22
        obtain ⟨hF, hv_22⟩ := hv_22
        have h8s : s2 8 = σ 8 := hF.1 8 (by decide) (by decide)
        have q0 := congrFun h8s 0; have q1 := congrFun h8s 1
        refine hX 400 22 _ _ ?_
        intro v5 e5 l5 h5
        have e5 : v5 = s2 8 0 := e5
        refine And.intro (fun c6 => ?_) (fun c6 => ?_)
        · refine hX 400 91 _ _ ?_
          intro z7 t7 e7 l7 h7
          try have w7 : t7 = 0 := by omega
          show xw _ _ _ _ _ _ _ _ _ _ [xvr 0, xvr 8, xvi o, xvi best2, xvl most2, xvu, xvi z7, xvi kd, u4_8, u4_9] _ _
          exact ih_10 _ (show (6 - z7).toNat < m10 from by omega) best2 most2 z7 (xvi kd) (u4_8) (u4_9) s2 rfl ⟨hF, by omega⟩
        · refine And.intro (fun c8 => ?_) (fun c8 => ?_)
          · refine hX 400 91 _ _ ?_
            intro z9 t9 e9 l9 h9
            try have w9 : t9 = 0 := by omega
            show xw _ _ _ _ _ _ _ _ _ _ [xvr 0, xvr 8, xvi o, xvi best2, xvl most2, xvu, xvi z9, xvi kd, u4_8, u4_9] _ _
            exact ih_10 _ (show (6 - z9).toNat < m10 from by omega) best2 most2 z9 (xvi kd) (u4_8) (u4_9) s2 rfl ⟨hF, by omega⟩
          · refine xMVp (sh := shO) (ci := 2) (τ := [8, 9, 10, 11, 12, 13, 14, 15, 16, 17, 18, 19, 20]) (E := xT kX2_held) (t := 8) (r := [xvi o, xvi kd]) (σ := s2) rfl rfl xbk_sel (fun Q10 hQ10 => sX2_held (σ := xsel [8, 9, 10, 11, 12, 13, 14, 15, 16, 17, 18, 19, 20] s2) (p := o) (kind := kd) (show 0 ≤ o ∧ o ≤ 5 from by omega) (show 0 ≤ kd ∧ kd ≤ 12 from by omega) (fun r10 p10 => hQ10 _ ?_))
            have p10 : r10 = s2 10 (13 * o + kd).toNat := p10
            refine And.intro (fun c11 => ?_) (fun c11 => ?_)
            · refine And.intro (Nat.le_of_ble_eq_true rfl) ?_
              show xw _ _ _ _ _ _ _ _ _ _ [xvr 0, xvr 8, xvi o, xvi best2, xvl most2, xvu, xvi q, xvi kd, xvl (-1), xvu] _ _
              intro z12 a12 b12 c12 l12 h12
              refine And.intro (fun c13 => ?_) (fun c13 => ?_)
              · refine hX 400 85 _ _ ?_
                intro z14 t14 e14 l14 h14
                try have w14 : t14 = 0 := by omega
                show xw _ _ _ _ _ _ _ _ _ _ [xvr 0, xvr 8, xvi o, xvi best2, xvl most2, xvu, xvi q, xvi z14, xvl (-1), xvu] _ _
                exact ih_22 _ (show (13 - z14).toNat < m22 from by omega) best2 most2 z14 (xvl (-1)) (xvu) s2 rfl ⟨hF, by omega⟩
              · refine And.intro (Nat.le_of_ble_eq_true rfl) ?_
                show xw _ _ _ _ _ _ _ _ _ _ [xvr 0, xvr 8, xvi o, xvi best2, xvl (-1), xvu, xvi q, xvi kd, xvl (-1), xvu] _ _
                intro z15 t15 e15 l15 h15
                try have w15 : t15 = 0 := by omega
                intro z16 t16 e16 l16 h16
                try have w16 : t16 = 0 := by omega
                refine And.intro (Nat.le_of_ble_eq_true rfl) ?_
                show xw _ _ _ _ _ _ _ _ _ _ [xvr 0, xvr 8, xvi o, xvi z16, xvl (-1), xvu, xvi q, xvi kd, xvl (-1), xvu] _ _
                refine hX 400 85 _ _ ?_
                intro z17 t17 e17 l17 h17
                try have w17 : t17 = 0 := by omega
                show xw _ _ _ _ _ _ _ _ _ _ [xvr 0, xvr 8, xvi o, xvi z16, xvl (-1), xvu, xvi q, xvi z17, xvl (-1), xvu] _ _
                exact ih_22 _ (show (13 - z17).toNat < m22 from by omega) z16 (-1) z17 (xvl (-1)) (xvu) s2 rfl ⟨hF, by omega⟩
            · have hC2 : CG (xsel [8, 9, 10, 11, 12, 13, 14, 15, 16, 17, 18, 19, 20] s2) := hp0.o8 hF (by decide) (by decide) (by decide) (by decide) (by decide)
              have m2 : s2 0 2 = σ 0 2 := hF.2 2 (by decide)
              have m5 : s2 0 5 = σ 0 5 := hF.2 5 (by decide)
              have m4 : s2 4 = σ 4 := hF.1 4 (by decide) (by decide)
              refine sX4_waysWithSome (σ := s2) (q := q) (kind := kd) hC2 (by omega) (by omega) (by omega) (by omega) (by rw [m5, m4]; exact hp4) (fun r18 σ18 f18 => ?_)
              have hF := hF.tr f18 (by decide) (by decide)
              refine And.intro (Nat.le_of_ble_eq_true rfl) ?_
              show xw _ _ _ _ _ _ _ _ _ _ [xvr 0, xvr 8, xvi o, xvi best2, xvl most2, xvu, xvi q, xvi kd, xvl r18, xvu] _ _
              intro z19 a19 b19 c19 l19 h19
              refine And.intro (fun c20 => ?_) (fun c20 => ?_)
              · refine hX 400 85 _ _ ?_
                intro z21 t21 e21 l21 h21
                try have w21 : t21 = 0 := by omega
                show xw _ _ _ _ _ _ _ _ _ _ [xvr 0, xvr 8, xvi o, xvi best2, xvl most2, xvu, xvi q, xvi z21, xvl r18, xvu] _ _
                exact ih_22 _ (show (13 - z21).toNat < m22 from by omega) best2 most2 z21 (xvl r18) (xvu) σ18 rfl ⟨hF, by omega⟩
              · refine And.intro (Nat.le_of_ble_eq_true rfl) ?_
                show xw _ _ _ _ _ _ _ _ _ _ [xvr 0, xvr 8, xvi o, xvi best2, xvl r18, xvu, xvi q, xvi kd, xvl r18, xvu] _ _
                intro z22 t22 e22 l22 h22
                try have w22 : t22 = 0 := by omega
                intro z23 t23 e23 l23 h23
                try have w23 : t23 = 0 := by omega
                refine And.intro (Nat.le_of_ble_eq_true rfl) ?_
                show xw _ _ _ _ _ _ _ _ _ _ [xvr 0, xvr 8, xvi o, xvi z23, xvl r18, xvu, xvi q, xvi kd, xvl r18, xvu] _ _
                refine hX 400 85 _ _ ?_
                intro z24 t24 e24 l24 h24
                try have w24 : t24 = 0 := by omega
                show xw _ _ _ _ _ _ _ _ _ _ [xvr 0, xvr 8, xvi o, xvi z23, xvl r18, xvu, xvi q, xvi z24, xvl r18, xvu] _ _
                exact ih_22 _ (show (13 - z24).toNat < m22 from by omega) z23 r18 z24 (xvl r18) (xvu) σ18 rfl ⟨hF, by omega⟩
      exact lp_22 _ best most 0 (u1_8) (u1_9) s1 rfl ⟨hF, by omega⟩
  exact lp_10 _ (-1) (-1) 0 (xvu) (xvu) (xvu) σ rfl ⟨hF, by omega⟩
