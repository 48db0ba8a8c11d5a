theorem x1023 (x : Int) : 0 ≤ (Int32.ofInt x &&& Int32.ofInt 1023).toInt ∧ (Int32.ofInt x &&& Int32.ofInt 1023).toInt ≤ 1023 := by
  obtain ⟨j, hj, e⟩ := pk_andE (Int32.ofInt x) (m := Int32.ofInt 1023) 10 rfl
  rw [e, nI_toInt (by omega)]
  omega
theorem mul5 {w m : Int} (h0 : 1 ≤ w) (h1 : 1 ≤ m) (h2 : m ≤ 5) : 1 ≤ w * m ∧ w * m ≤ 5 * w := by
  have a := Int.mul_le_mul_of_nonneg_left h2 (show 0 ≤ w from by omega)
  have b := Int.mul_le_mul_of_nonneg_left h1 (show 0 ≤ w from by omega)
  omega
set_option maxHeartbeats 4000000 in
set_option maxRecDepth 100000 in
theorem sX7_isSo {σ : xS} {code kind : Int} {Q : Option xV → xS → Prop} (hp0 : CG σ) (hp1 : 0 ≤ kind ∧ kind ≤ 12) (hQ : ∀ r : Int, (r = 0 ∨ r = 1) → Q (some (xvi r)) σ) : xT kX7_isSo [xvi code, xvr 0, xvi kind] σ Q := by
  refine ⟨Nat.le_of_ble_eq_true rfl, fun X hX => ?_⟩
  show X 0 [xvi code, xvr 0, xvi kind, xvu, xvu] σ
  refine hX 400 0 _ _ ?_
  have hb0 := hp0.1.1; have hb1 := hp0.1.2.1; have hb3 := hp0.1.2.2.1
  intro z1 e1 l1 h1
  refine And.intro (Nat.le_of_ble_eq_true rfl) ?_
  show xw _ _ _ _ _ _ _ _ _ _ [xvi code, xvr 0, xvi kind, xvi z1, xvu] _ _
  intro z2 e2 l2 h2
  intro z3 e3 l3 h3
  refine And.intro (Nat.le_of_ble_eq_true rfl) ?_
  show xw _ _ _ _ _ _ _ _ _ _ [xvi code, xvr 0, xvi kind, xvi z1, xvi z3] _ _
  intro z4 e4 l4 h4
  refine And.intro (fun c5 => ?_) (And.intro rfl ?_)
  · refine sX7_compares (σ := σ) (measure := kind) (sign := z3) (number := z1)  (fun r6 p6 => ?_)
    have p6 : r6 = 0 ∨ r6 = 1 := p6
    refine And.intro rfl ?_
    refine And.intro (by omega) ?_
    exact hQ _ (show r6 = 0 ∨ r6 = 1 from by first | trivial | omega)
  refine And.intro (fun c5 => ?_) ?_
  · refine And.intro (rfl) (And.intro (⟨by omega, by omega⟩) ?_)
    intro v7 e7 l7 h7
    have e7 : v7 = σ 5 kind.toNat := e7
    refine And.intro (fun c8 => ?_) (fun c8 => ?_)
    · refine And.intro rfl ?_
      refine And.intro (by omega) ?_
      exact hQ _ (show 0 = 0 ∨ 0 = 1 from by first | trivial | omega)
    · refine And.intro rfl ?_
      refine And.intro (by omega) ?_
      exact hQ _ (show 1 = 0 ∨ 1 = 1 from by first | trivial | omega)
  refine And.intro (fun c5 => ?_) ?_
  · have lp_100 : ∀ (_ : Unit), (True) → X 100 [xvi code, xvr 0, xvi kind, xvi z1, xvi z3] σ := by
      intro _ hv_100
      refine hX 400 100 _ _ ?_
      refine And.intro rfl ?_
      refine And.intro (by omega) ?_
      exact hQ _ (show 0 = 0 ∨ 0 = 1 from by first | trivial | omega)
    refine sX2_hasPerson (σ := σ) (p := z1)  (fun r10 p10 => ?_)
    have p10 : (r10 = 1 ∧ 0 ≤ z1 ∧ z1 < (σ 0 1)) ∨ (r10 = 0 ∧ (z1 < 0 ∨ (σ 0 1) ≤ z1)) := p10
    refine And.intro (fun c11 => ?_) (fun c11 => ?_)
    · replace p10 : (z1 < 0 ∨ (σ 0 1) ≤ z1) := by
        rcases p10 with q | q
        · exact absurd q.1 (by omega)
        · exact q.2
      exact lp_100 () (show True from by first | trivial | omega | (refine ⟨by assumption, ?_⟩; omega) | (refine ⟨?_, ?_⟩ <;> omega))
    · replace p10 : 0 ≤ z1 ∧ z1 < (σ 0 1) := by
        rcases p10 with q | q
        · exact q.2
        · exact absurd q.1 (by omega)
      refine sX3_sureOf (σ := σ) (p := z1) (kind := kind) (show 0 ≤ z1 ∧ z1 ≤ 5 from by omega) (show 0 ≤ kind ∧ kind ≤ 12 from by omega) (fun r12 p12 => ?_)
      have p12 : r12 = σ 10 (13 * z1 + kind).toNat := p12
      refine And.intro (fun c13 => ?_) (fun c13 => ?_)
      · exact lp_100 () (show True from by first | trivial | omega | (refine ⟨by assumption, ?_⟩; omega) | (refine ⟨?_, ?_⟩ <;> omega))
      · refine And.intro rfl ?_
        refine And.intro (by omega) ?_
        exact hQ _ (show 1 = 0 ∨ 1 = 1 from by first | trivial | omega)
  refine And.intro (fun c5 => ?_) ?_
  · have lp_123 : ∀ (_ : Unit), (True) → X 123 [xvi code, xvr 0, xvi kind, xvi z1, xvi z3] σ := by
      intro _ hv_123
      refine hX 400 123 _ _ ?_
      refine And.intro rfl ?_
      refine And.intro (by omega) ?_
      exact hQ _ (show 0 = 0 ∨ 0 = 1 from by first | trivial | omega)
    refine sX2_hasPerson (σ := σ) (p := z1)  (fun r15 p15 => ?_)
    have p15 : (r15 = 1 ∧ 0 ≤ z1 ∧ z1 < (σ 0 1)) ∨ (r15 = 0 ∧ (z1 < 0 ∨ (σ 0 1) ≤ z1)) := p15
    refine And.intro (fun c16 => ?_) (fun c16 => ?_)
    · replace p15 : (z1 < 0 ∨ (σ 0 1) ≤ z1) := by
        rcases p15 with q | q
        · exact absurd q.1 (by omega)
        · exact q.2
      exact lp_123 () (show True from by first | trivial | omega | (refine ⟨by assumption, ?_⟩; omega) | (refine ⟨?_, ?_⟩ <;> omega))
    · replace p15 : 0 ≤ z1 ∧ z1 < (σ 0 1) := by
        rcases p15 with q | q
        · exact q.2
        · exact absurd q.1 (by omega)
      refine sX2_held (σ := σ) (p := z1) (kind := kind) (show 0 ≤ z1 ∧ z1 ≤ 5 from by omega) (show 0 ≤ kind ∧ kind ≤ 12 from by omega) (fun r17 p17 => ?_)
      have p17 : r17 = σ 2 (13 * z1 + kind).toNat := p17
      refine And.intro (fun c18 => ?_) (fun c18 => ?_)
      · exact lp_123 () (show True from by first | trivial | omega | (refine ⟨by assumption, ?_⟩; omega) | (refine ⟨?_, ?_⟩ <;> omega))
      · refine And.intro rfl ?_
        refine And.intro (by omega) ?_
        exact hQ _ (show 1 = 0 ∨ 1 = 1 from by first | trivial | omega)
  refine And.intro (fun c5 => ?_) ?_
  · refine sX2_inHands (σ := σ) (kind := kind) (show 0 ≤ (σ 0 1) ∧ (σ 0 1) ≤ 6 from by omega) (show ∀ p k, p < 6 → k < 13 → 0 ≤ σ 2 (13 * p + k) ∧ σ 2 (13 * p + k) ≤ 4 from fun p k hp hk => hp0.2.1.1.h4 hp0.2.1.2 hp hk) (show 0 ≤ kind ∧ kind ≤ 12 from by omega) (fun r19 p19 => ?_)
    have p19 : 0 ≤ r19 ∧ r19 ≤ sm 6 (fun p => σ 2 (13 * p + kind.toNat)) := p19
    refine sX7_compares (σ := σ) (measure := r19) (sign := z3) (number := z1)  (fun r20 p20 => ?_)
    have p20 : r20 = 0 ∨ r20 = 1 := p20
    refine And.intro rfl ?_
    refine And.intro (by omega) ?_
    exact hQ _ (show r20 = 0 ∨ r20 = 1 from by first | trivial | omega)
  refine And.intro (fun c5 => ?_) ?_
  · refine sX2_inHeap (σ := σ) (kind := kind) (show 0 ≤ (σ 0 8) ∧ (σ 0 8) ≤ (σ 0 9) ∧ (σ 0 9) ≤ 52 from by omega) (show 0 ≤ kind ∧ kind ≤ 12 from by omega) (fun r21 p21 => ?_)
    have p21 : 0 ≤ r21 ∧ r21 ≤ gcf (σ 4) ((σ 0 8)) ((σ 0 9)) kind.toNat := p21
    refine sX7_compares (σ := σ) (measure := r21) (sign := z3) (number := z1)  (fun r22 p22 => ?_)
    have p22 : r22 = 0 ∨ r22 = 1 := p22
    refine And.intro rfl ?_
    refine And.intro (by omega) ?_
    exact hQ _ (show r22 = 0 ∨ r22 = 1 from by first | trivial | omega)
  refine And.intro (fun c5 => ?_) ?_
  · refine sX2_mostInOneHand (σ := σ) (kind := kind) (show 0 ≤ (σ 0 1) ∧ (σ 0 1) ≤ 6 from by omega) (show 0 ≤ kind ∧ kind ≤ 12 from by omega) (fun r23 => ?_)
    refine sX7_compares (σ := σ) (measure := r23) (sign := z3) (number := z1)  (fun r24 p24 => ?_)
    have p24 : r24 = 0 ∨ r24 = 1 := p24
    refine And.intro rfl ?_
    refine And.intro (by omega) ?_
    exact hQ _ (show r24 = 0 ∨ r24 = 1 from by first | trivial | omega)
  exact trivial
set_option maxHeartbeats 4000000 in
set_option maxRecDepth 100000 in
theorem sX7_holdsFor {σ : xS} {kind : Int} {Q : Option xV → xS → Prop} (hp0 : 0 ≤ σ 0 1 ∧ σ 0 1 ≤ 40) (hp1 : CG (xsel [2, 3, 4, 5, 6, 7, 8, 9, 10, 11, 12, 13, 14] σ)) (hp2 : 0 ≤ kind ∧ kind ≤ 12) (hQ : ∀ r : Int, (r = 0 ∨ r = 1) → Q (some (xvi r)) σ) : xT kX7_holdsFor [xvr 0, xvr 2, xvi kind] σ Q := by
  refine ⟨Nat.le_of_ble_eq_true rfl, fun X hX => ?_⟩
  show X 0 [xvr 0, xvr 2, xvi kind, xvu, xvu, xvu, xvu] σ
  refine hX 400 0 _ _ ?_
  have hC := hp1
  refine And.intro (Nat.le_of_ble_eq_true rfl) ?_
  show xw _ _ _ _ _ _ _ _ _ _ [xvr 0, xvr 2, xvi kind, xvi 0, xvu, xvu, xvu] _ _
  refine And.intro (Nat.le_of_ble_eq_true rfl) ?_
  show xw _ _ _ _ _ _ _ _ _ _ [xvr 0, xvr 2, xvi kind, xvi 0, xvi 0, xvu, xvu] _ _
  have lp_5 : ∀ (m5 : Nat) (ans : Int) (i : Int) (u1_5 : xV) (u1_6 : xV), ((40 - i).toNat) = m5 → (0 ≤ i) → X 5 [xvr 0, xvr 2, xvi kind, xvi ans, xvi i, u1_5, u1_6] σ := by
    intro m5
    induction m5 using Nat.strongRecOn with
    | _ m5 ih_5 =>
    intro ans i u1_5 u1_6 hm_5 hv_5
    refine hX 400 5 _ _ ?_
    intro v2 e2 l2 h2
    have e2 : v2 = σ 0 1 := e2
    refine And.intro (fun c3 => ?_) (fun c3 => ?_)
    · intro z4 e4 l4 h4
      have q4 := x1b ans; rw [← e4] at q4
      refine And.intro (fun c5 => ?_) (fun c5 => ?_)
      · refine And.intro rfl ?_
        refine And.intro (by omega) ?_
        exact hQ _ (show 0 = 0 ∨ 0 = 1 from by first | trivial | omega)
      · refine And.intro rfl ?_
        refine And.intro (by omega) ?_
        exact hQ _ (show 1 = 0 ∨ 1 = 1 from by first | trivial | omega)
    · refine And.intro (rfl) (And.intro (⟨by omega, by omega⟩) ?_)
      intro v6 e6 l6 h6
      have e6 : v6 = σ 1 i.toNat := e6
      intro z7 e7 l7 h7
      refine And.intro (Nat.le_of_ble_eq_true rfl) ?_
      show xw _ _ _ _ _ _ _ _ _ _ [xvr 0, xvr 2, xvi kind, xvi ans, xvi i, xvi z7, u1_6] _ _
      intro z8 e8 l8 h8
      have q8 := x1b ans; rw [← e8] at q8
      refine And.intro (Nat.le_of_ble_eq_true rfl) ?_
      show xw _ _ _ _ _ _ _ _ _ _ [xvr 0, xvr 2, xvi kind, xvi ans, xvi i, xvi z7, xvi z8] _ _
      refine And.intro (fun c9 => ?_) (fun c9 => ?_)
      · refine And.intro (fun c10 => ?_) (fun c10 => ?_)
        · refine And.intro (fun c11 => ?_) (fun c11 => ?_)
          · intro z12 e12 l12 h12
            refine And.intro (rfl) (And.intro (⟨by omega, by omega⟩) ?_)
            intro v13 e13 l13 h13
            have e13 : v13 = σ 1 i.toNat := e13
            refine xMSp (τ := [2, 3, 4, 5, 6, 7, 8, 9, 10, 11, 12, 13, 14]) (E := xT kX7_isSo) (r := [xvi v13, xvr 2, xvi kind]) (σ := σ) rfl xbk_sel (fun Q14 hQ14 => sX7_isSo (σ := xsel [2, 3, 4, 5, 6, 7, 8, 9, 10, 11, 12, 13, 14] σ) (code := v13) (kind := kind) (show CG (xsel [2, 3, 4, 5, 6, 7, 8, 9, 10, 11, 12, 13, 14] σ) from hC) (show 0 ≤ kind ∧ kind ≤ 12 from by omega) (fun r14 p14 => hQ14 _ ?_))
            have p14 : r14 = 0 ∨ r14 = 1 := p14
            refine And.intro (fun c15 => ?_) (fun c15 => ?_)
            · intro z16 e16 l16 h16
              refine And.intro (Nat.le_of_ble_eq_true rfl) ?_
              show xw _ _ _ _ _ _ _ _ _ _ [xvr 0, xvr 2, xvi kind, xvi z16, xvi i, xvi z7, xvi z8] _ _
              refine hX 400 115 _ _ ?_
              intro z17 t17 e17 l17 h17
              try have w17 : t17 = 0 := by omega
              show xw _ _ _ _ _ _ _ _ _ _ [xvr 0, xvr 2, xvi kind, xvi z16, xvi z17, xvi z7, xvi z8] _ _
              exact ih_5 _ (show (40 - z17).toNat < m5 from by omega) z16 z17 (xvi z7) (xvi z8) rfl (show 0 ≤ z17 from by first | trivial | omega | (refine ⟨by assumption, ?_⟩; omega) | (refine ⟨?_, ?_⟩ <;> omega))
            · intro z18 e18 l18 h18
              refine And.intro (Nat.le_of_ble_eq_true rfl) ?_
              show xw _ _ _ _ _ _ _ _ _ _ [xvr 0, xvr 2, xvi kind, xvi z18, xvi i, xvi z7, xvi z8] _ _
              refine hX 400 115 _ _ ?_
              intro z19 t19 e19 l19 h19
              try have w19 : t19 = 0 := by omega
              show xw _ _ _ _ _ _ _ _ _ _ [xvr 0, xvr 2, xvi kind, xvi z18, xvi z19, xvi z7, xvi z8] _ _
              exact ih_5 _ (show (40 - z19).toNat < m5 from by omega) z18 z19 (xvi z7) (xvi z8) rfl (show 0 ≤ z19 from by first | trivial | omega | (refine ⟨by assumption, ?_⟩; omega) | (refine ⟨?_, ?_⟩ <;> omega))
          · intro z20 e20 l20 h20
            intro z21 e21 l21 h21
            refine And.intro (Nat.le_of_ble_eq_true rfl) ?_
            show xw _ _ _ _ _ _ _ _ _ _ [xvr 0, xvr 2, xvi kind, xvi z21, xvi i, xvi z7, xvi z8] _ _
            refine hX 400 115 _ _ ?_
            intro z22 t22 e22 l22 h22
            try have w22 : t22 = 0 := by omega
            show xw _ _ _ _ _ _ _ _ _ _ [xvr 0, xvr 2, xvi kind, xvi z21, xvi z22, xvi z7, xvi z8] _ _
            exact ih_5 _ (show (40 - z22).toNat < m5 from by omega) z21 z22 (xvi z7) (xvi z8) rfl (show 0 ≤ z22 from by first | trivial | omega | (refine ⟨by assumption, ?_⟩; omega) | (refine ⟨?_, ?_⟩ <;> omega))
        · refine And.intro (fun c23 => ?_) (fun c23 => ?_)
          · intro z24 e24 l24 h24
            refine And.intro (Nat.le_of_ble_eq_true rfl) ?_
            show xw _ _ _ _ _ _ _ _ _ _ [xvr 0, xvr 2, xvi kind, xvi z24, xvi i, xvi z7, xvi z8] _ _
            refine hX 400 115 _ _ ?_
            intro z25 t25 e25 l25 h25
            try have w25 : t25 = 0 := by omega
            show xw _ _ _ _ _ _ _ _ _ _ [xvr 0, xvr 2, xvi kind, xvi z24, xvi z25, xvi z7, xvi z8] _ _
            exact ih_5 _ (show (40 - z25).toNat < m5 from by omega) z24 z25 (xvi z7) (xvi z8) rfl (show 0 ≤ z25 from by first | trivial | omega | (refine ⟨by assumption, ?_⟩; omega) | (refine ⟨?_, ?_⟩ <;> omega))
          · intro z26 e26 l26 h26
            intro z27 e27 l27 h27
            refine And.intro (Nat.le_of_ble_eq_true rfl) ?_
            show xw _ _ _ _ _ _ _ _ _ _ [xvr 0, xvr 2, xvi kind, xvi z27, xvi i, xvi z7, xvi z8] _ _
            refine hX 400 115 _ _ ?_
            intro z28 t28 e28 l28 h28
            try have w28 : t28 = 0 := by omega
            show xw _ _ _ _ _ _ _ _ _ _ [xvr 0, xvr 2, xvi kind, xvi z27, xvi z28, xvi z7, xvi z8] _ _
            exact ih_5 _ (show (40 - z28).toNat < m5 from by omega) z27 z28 (xvi z7) (xvi z8) rfl (show 0 ≤ z28 from by first | trivial | omega | (refine ⟨by assumption, ?_⟩; omega) | (refine ⟨?_, ?_⟩ <;> omega))
      · intro z29 e29 l29 h29
        refine And.intro (Nat.le_of_ble_eq_true rfl) ?_
        show xw _ _ _ _ _ _ _ _ _ _ [xvr 0, xvr 2, xvi kind, xvi z29, xvi i, xvi z7, xvi z8] _ _
        refine hX 400 115 _ _ ?_
        intro z30 t30 e30 l30 h30
        try have w30 : t30 = 0 := by omega
        show xw _ _ _ _ _ _ _ _ _ _ [xvr 0, xvr 2, xvi kind, xvi z29, xvi z30, xvi z7, xvi z8] _ _
        exact ih_5 _ (show (40 - z30).toNat < m5 from by omega) z29 z30 (xvi z7) (xvi z8) rfl (show 0 ≤ z30 from by first | trivial | omega | (refine ⟨by assumption, ?_⟩; omega) | (refine ⟨?_, ?_⟩ <;> omega))
  exact lp_5 _ 0 0 (xvu) (xvu) rfl (show 0 ≤ 0 from by first | trivial | omega | (refine ⟨by assumption, ?_⟩; omega) | (refine ⟨?_, ?_⟩ <;> omega))
set_option maxHeartbeats 4000000 in
set_option maxRecDepth 100000 in
theorem sX4_layOut {σ : xS} {Q : Option xV → xS → Prop} (hp0 : 0 ≤ σ 0 5 ∧ σ 0 5 ≤ 6) (hp1 : ∀ i : Nat, (i : Int) < σ 0 5 → 0 ≤ σ 4 i ∧ σ 4 i ≤ 4) (hQ : ∀ r : Int, ∀ σ' : xS, Fr [5, 6] [] σ σ' → ((1 ≤ r ∧ r ≤ 15625) ∧ (∀ i : Nat, (i : Int) < σ 0 5 → σ' 5 i = 0) ∧ (∀ i : Nat, (i : Int) ≤ σ 0 5 → 1 ≤ σ' 6 i ∧ σ' 6 i ≤ f5 i)) → Q (some (xvi r)) σ') : xT kX4_layOut [xvr 0] σ Q := by
  refine ⟨Nat.le_of_ble_eq_true rfl, fun X hX => ?_⟩
  show X 0 [xvr 0, xvu] σ
  have hF : Fr [5, 6] [] σ σ := Fr.rf
  refine hX 400 0 _ _ ?_
  refine And.intro (rfl) (And.intro (⟨by omega, by omega⟩) ?_)
  have hF := hF.pt (t := 6) (j := 0) (v := 1) (by decide) (by decide)
  refine And.intro (Nat.le_of_ble_eq_true rfl) ?_
  show xw _ _ _ _ _ _ _ _ _ _ [xvr 0, xvi 0] _ _
  have lp_9 : ∀ (m9 : Nat) (i : Int) (s1 : xS), ((6 - i).toNat) = m9 → (Fr [5, 6] [] σ s1 ∧ s1 0 5 = σ 0 5 ∧ (∀ q : Nat, (q : Int) < i → s1 5 q = 0) ∧ (∀ q : Nat, (q : Int) ≤ i → 1 ≤ s1 6 q ∧ s1 6 q ≤ f5 q) ∧ (0 ≤ i ∧ i ≤ σ 0 5)) → X 9 [xvr 0, xvi i] s1 := by
    intro m9
    induction m9 using Nat.strongRecOn with
    | _ m9 ih_9 =>
    intro i s1 hm_9 hv_9
    obtain ⟨hF, h05, hU, hT, hv_9⟩ := hv_9
    have h4s : s1 4 = σ 4 := hF.1 4 (by decide) (by decide)
    refine hX 400 9 _ _ ?_
    intro v3 e3 l3 h3
    have e3 : v3 = s1 0 5 := e3
    refine And.intro (fun c4 => ?_) (fun c4 => ?_)
    · intro v5 e5 l5 h5
      have e5 : v5 = s1 0 5 := e5
      refine And.intro (rfl) (And.intro (⟨by omega, by omega⟩) ?_)
      intro v6 e6 l6 h6
      have e6 : v6 = s1 6 v5.toNat := e6
      have hzv6 := hT i.toNat (by omega)
      have hzxv6 : v6 = s1 6 i.toNat := by rw [e6, show v5.toNat = i.toNat from by omega]
      rw [← hzxv6] at hzv6
      intro r7 o7 a7 b7
      refine And.intro rfl ?_
      exact hQ _ _ hF ⟨by omega, (fun q hq => hU q (by omega)), (fun q hq => hT q (by omega))⟩
    · refine And.intro (rfl) (And.intro (⟨by omega, by omega⟩) ?_)
      have hF := hF.pt (t := 5) (j := i.toNat) (v := 0) (by decide) (by decide)
      intro z9 t9 e9 l9 h9
      try have w9 : t9 = 0 := by omega
      refine And.intro (rfl) (And.intro (⟨by omega, by omega⟩) ?_)
      intro v10 e10 l10 h10
      have e10 : v10 = s1 6 i.toNat := e10
      have hwv10 := hT i.toNat (by omega)
      have hxv10 : v10 = s1 6 i.toNat := by rw [e10]
      rw [← hxv10] at hwv10
      have hf5 := f5_6 (n := i.toNat) (by omega)
      refine And.intro (rfl) (And.intro (⟨by omega, by omega⟩) ?_)
      intro v11 e11 l11 h11
      have e11 : v11 = s1 4 i.toNat := e11
      have hrv11 := hp1 i.toNat (by omega)
      have hyv11 : v11 = σ 4 i.toNat := by rw [e11, h4s]
      rw [← hyv11] at hrv11
      intro z12 t12 e12 l12 h12
      try have w12 : t12 = 0 := by omega
      have hmm := mul5 (w := v10) (m := z12) (by omega) (by omega) (by omega)
      intro z13 t13 e13 l13 h13
      try have w13 : t13 = 0 := by omega
      refine And.intro (rfl) (And.intro (⟨by omega, by omega⟩) ?_)
      have hF := hF.pt (t := 6) (j := z9.toNat) (v := z13) (by decide) (by decide)
      intro z15 t15 e15 l15 h15
      try have w15 : t15 = 0 := by omega
      show xw _ _ _ _ _ _ _ _ _ _ [xvr 0, xvi z15] _ _
      exact ih_9 _ (show (6 - z15).toNat < m9 from by omega) z15 (xput (xput s1 5 i.toNat 0) 6 z9.toNat z13) rfl ⟨hF, h05, (fun q hq => by
                  show xput s1 5 i.toNat 0 5 q = 0
                  by_cases e : q = i.toNat
                  · rw [show q = i.toNat from by omega, xput_s]
                  · rw [xput_o (by omega)]; exact hU q (by omega)), (fun q hq => by
                  show 1 ≤ xput _ 6 z9.toNat z13 6 q ∧ xput _ 6 z9.toNat z13 6 q ≤ f5 q
                  by_cases e : q = i.toNat + 1
                  · rw [show q = z9.toNat from by omega, xput_s, show z9.toNat = i.toNat + 1 from by omega]
                    have e5 : f5 (i.toNat + 1) = 5 * f5 i.toNat := rfl
                    omega
                  · rw [xput_o (by omega)]; exact hT q (by omega)), by omega⟩
  exact lp_9 _ 0 (xput σ 6 0 1) rfl ⟨hF, rfl, (fun q hq => by omega), (fun q hq => by rw [show q = 0 from by omega]; exact ⟨by rw [xput_s]; omega, by rw [xput_s]; exact Int.le_refl _⟩), by omega⟩
set_option maxHeartbeats 4000000 in
set_option maxRecDepth 100000 in
theorem sX4_indexOfKind {σ : xS} {kind : Int} {Q : Option xV → xS → Prop} (hp0 : 0 ≤ σ 0 5 ∧ σ 0 5 ≤ 6) (hQ : ∀ r : Int, (r = -1 ∨ (0 ≤ r ∧ r < σ 0 5)) → Q (some (xvi r)) σ) : xT kX4_indexOfKind [xvr 0, xvi kind] σ Q := by
  refine ⟨Nat.le_of_ble_eq_true rfl, fun X hX => ?_⟩
  show X 0 [xvr 0, xvi kind, xvu] σ
  refine hX 400 0 _ _ ?_
  refine And.intro (Nat.le_of_ble_eq_true rfl) ?_
  show xw _ _ _ _ _ _ _ _ _ _ [xvr 0, xvi kind, xvi 0] _ _
  have lp_2 : ∀ (m2 : Nat) (i : Int), ((6 - i).toNat) = m2 → (0 ≤ i) → X 2 [xvr 0, xvi kind, xvi i] σ := by
    intro m2
    induction m2 using Nat.strongRecOn with
    | _ m2 ih_2 =>
    intro i hm_2 hv_2
    refine hX 400 2 _ _ ?_
    intro v2 e2 l2 h2
    have e2 : v2 = σ 0 5 := e2
    refine And.intro (fun c3 => ?_) (fun c3 => ?_)
    · refine And.intro rfl ?_
      exact hQ _ (show (-1) = -1 ∨ (0 ≤ (-1) ∧ (-1) < σ 0 5) from by first | trivial | omega)
    · refine And.intro (rfl) (And.intro (⟨by omega, by omega⟩) ?_)
      intro v4 e4 l4 h4
      have e4 : v4 = σ 3 i.toNat := e4
      refine And.intro (fun c5 => ?_) (fun c5 => ?_)
      · intro z6 t6 e6 l6 h6
        try have w6 : t6 = 0 := by omega
        show xw _ _ _ _ _ _ _ _ _ _ [xvr 0, xvi kind, xvi z6] _ _
        exact ih_2 _ (show (6 - z6).toNat < m2 from by omega) z6 rfl (show 0 ≤ z6 from by first | trivial | omega | (refine ⟨by assumption, ?_⟩; omega) | (refine ⟨?_, ?_⟩ <;> omega))
      · refine And.intro rfl ?_
        exact hQ _ (show i = -1 ∨ (0 ≤ i ∧ i < σ 0 5) from by first | trivial | omega)
  exact lp_2 _ 0 rfl (show 0 ≤ 0 from by first | trivial | omega | (refine ⟨by assumption, ?_⟩; omega) | (refine ⟨?_, ?_⟩ <;> omega))
set_option maxHeartbeats 4000000 in
set_option maxRecDepth 100000 in
theorem sX4_spread {σ : xS} {s barred : Int} {Q : Option xV → xS → Prop} (hp0 : 0 ≤ σ 0 5 ∧ σ 0 5 ≤ 6) (hp1 : 0 ≤ s ∧ s < 15625) (hp2 : ∀ i : Nat, (i : Int) < σ 0 5 → 1 ≤ σ 6 i ∧ σ 6 i ≤ 15625) (hQ : ∀ σ' : xS, Fr [7] [] σ σ' → Q none σ') : xT kX4_spread [xvr 0, xvi s, xvi barred] σ Q := by
  refine ⟨Nat.le_of_ble_eq_true rfl, fun X hX => ?_⟩
  show X 0 [xvr 0, xvi s, xvi barred, xvu, xvu, xvu] σ
  have hF : Fr [7] [] σ σ := Fr.rf
  refine hX 400 0 _ _ ?_
  refine And.intro (Nat.le_of_ble_eq_true rfl) ?_
  show xw _ _ _ _ _ _ _ _ _ _ [xvr 0, xvi s, xvi barred, xvi 0, xvu, xvu] _ _
  have lp_2 : ∀ (m2 : Nat) (i : Int) (u1_4 : xV) (u1_5 : xV) (s1 : xS), ((6 - i).toNat) = m2 → (Fr [7] [] σ s1 ∧ (0 ≤ i)) → X 2 [xvr 0, xvi s, xvi barred, xvi i, u1_4, u1_5] s1 := by
    intro m2
    induction m2 using Nat.strongRecOn with
    | _ m2 ih_2 =>
    intro i u1_4 u1_5 s1 hm_2 hv_2
    obtain ⟨hF, hv_2⟩ := hv_2
    have h6s : s1 6 = σ 6 := hF.1 6 (by decide) (by decide)
    have h05 : s1 0 5 = σ 0 5 := hF.2 5 (by decide)
    refine hX 400 2 _ _ ?_
    intro v2 e2 l2 h2
    have e2 : v2 = s1 0 5 := e2
    refine And.intro (fun c3 => ?_) (fun c3 => ?_)
    · refine And.intro rfl (And.intro rfl ?_)
      exact hQ _ hF 
    · refine And.intro (rfl) (And.intro (⟨by omega, by omega⟩) ?_)
      intro v4 e4 l4 h4
      have e4 : v4 = s1 4 i.toNat := e4
      refine And.intro (rfl) (And.intro (⟨by omega, by omega⟩) ?_)
      intro v5 e5 l5 h5
      have e5 : v5 = s1 5 i.toNat := e5
      intro z6 t6 e6 l6 h6
      try have w6 : t6 = 0 := by omega
      refine And.intro (Nat.le_of_ble_eq_true rfl) ?_
      show xw _ _ _ _ _ _ _ _ _ _ [xvr 0, xvi s, xvi barred, xvi i, xvi z6, u1_5] _ _
      refine And.intro (rfl) (And.intro (⟨by omega, by omega⟩) ?_)
      intro v7 e7 l7 h7
      have e7 : v7 = s1 6 i.toNat := e7
      have hsv7 := hp2 i.toNat (by omega)
      have hzv7 : v7 = σ 6 i.toNat := by rw [e7, h6s]
      rw [← hzv7] at hsv7
      intro z8 t8 e8 l8 h8
      try have w8 : t8 = 0 := by omega
      refine And.intro (Nat.le_of_ble_eq_true rfl) ?_
      show xw _ _ _ _ _ _ _ _ _ _ [xvr 0, xvi s, xvi barred, xvi i, xvi z6, xvi z8] _ _
      have lp_81 : ∀ (s2 : xS), (Fr [7] [] σ s2) → X 81 [xvr 0, xvi s, xvi barred, xvi i, xvi z6, xvi z8] s2 := by
        intro s2 hv_81
        have hF := hv_81
        refine hX 400 81 _ _ ?_
        intro z10 t10 e10 l10 h10
        try have w10 : t10 = 0 := by omega
        show xw _ _ _ _ _ _ _ _ _ _ [xvr 0, xvi s, xvi barred, xvi z10, xvi z6, xvi z8] _ _
        exact ih_2 _ (show (6 - z10).toNat < m2 from by omega) z10 (xvi z6) (xvi z8) s2 rfl ⟨hF, by omega⟩
      refine And.intro (fun c11 => ?_) (fun c11 => ?_)
      · exact lp_81 s1 hF
      · refine And.intro (rfl) (And.intro (⟨by omega, by omega⟩) ?_)
        intro v12 e12 l12 h12
        have e12 : v12 = s1 3 i.toNat := e12
        intro z13 e13 l13 h13
        intro z14 e14 l14 h14
        have q14 := x1b z13; rw [← e14] at q14
        refine And.intro (fun c15 => ?_) (fun c15 => ?_)
        · exact lp_81 s1 hF
        · refine And.intro (fun c16 => ?_) (fun c16 => ?_)
          · exact lp_81 s1 hF
          · refine And.intro (rfl) (And.intro (⟨by omega, by omega⟩) ?_)
            intro v17 e17 l17 h17
            have e17 : v17 = s1 7 z8.toNat := e17
            refine And.intro (rfl) (And.intro (⟨by omega, by omega⟩) ?_)
            intro v18 e18 l18 h18
            have e18 : v18 = s1 7 s.toNat := e18
            intro z19 t19 e19 l19 h19
            try have w19 : t19 = 0 := by omega
            intro z20 t20 e20 l20 h20
            try have w20 : t20 = 0 := by omega
            refine And.intro rfl (And.intro (⟨by omega, by omega⟩) ?_)
            have hF := hF.pt (t := 7) (j := z8.toNat) (v := z20) (by decide) (by decide)
            exact lp_81 (xput s1 7 z8.toNat z20) hF
  exact lp_2 _ 0 (xvu) (xvu) σ rfl ⟨hF, by omega⟩
