set_option maxHeartbeats 4000000 in
set_option maxRecDepth 100000 in
theorem sX1_readAnswerF {b : Nat → Int} {n m p : Int} {σ : xS} {Q : Option xV → xS → Prop} (hp0 : 0 ≤ σ 0 2 ∧ σ 0 2 ≤ 29) (hp1 : RDv σ b n m p) (hQ : ∀ r : Int, ∀ σ' : xS, Fr [1, 2] [] σ σ' → ((r = 1 ∧ ∃ y, eva b n m p = .inr y ∧ RDv σ' b n m y.1 ∧ σ' 1 (4 * σ 0 2 + 3).toNat = y.2 ∧ (∀ j : Nat, ((j : Int) ≠ 4 * σ 0 2 + 3) → σ' 1 j = σ 1 j)) ∨ (r = 0 ∧ eva b n m p = .inl (σ' 2 9, σ' 2 10))) → Q (some (xvi r)) σ') : xT kX1_readAnswer [xvr 0] σ Q := by
  refine ⟨Nat.le_of_ble_eq_true rfl, fun X hX => ?_⟩
  show X 0 [xvr 0] σ
  have hF : Fr [1, 2] [] σ σ := Fr.rf
  refine hX 400 0 _ _ ?_
  have hR := hp1
  have hO : ∀ j : Nat, ((j : Int) ≠ 4 * σ 0 2 + 3) → σ 1 j = σ 1 j := fun _ _ => rfl
  intro v1 e1 l1 h1
  have e1 : v1 = σ 0 2 := e1
  intro z2 t2 e2 l2 h2
  try have w2 : t2 = 0 := by omega
  intro z3 t3 e3 l3 h3
  try have w3 : t3 = 0 := by omega
  refine And.intro (rfl) (And.intro (⟨by omega, by omega⟩) ?_)
  have hF := hF.pt (t := 1) (j := z3.toNat) (v := 0) (by decide) (by decide)
  have hO : ∀ j : Nat, ((j : Int) ≠ 4 * σ 0 2 + 3) → (xput σ 1 z3.toNat 0) 1 j = σ 1 j := fun j hj => by
    show xput σ 1 z3.toNat 0 1 j = σ 1 j
    refine Eq.trans (b := σ 1 j) ?_ (hO j hj)
    rw [xput_up, up_n (by omega)]
  have hV : (xput σ 1 z3.toNat 0) 1 (4 * σ 0 2 + 3).toNat = 0 := by
    show xput σ 1 z3.toNat 0 1 (4 * σ 0 2 + 3).toNat = _
    rw [xput_up, show z3.toNat = (4 * σ 0 2 + 3).toNat from by omega, up_s]
  have hR : RDv (xput σ 1 z3.toNat 0) b n m p := hR
  refine eIsAt (σ := (xput σ 1 z3.toNat 0)) hR (fun c5 => ?_) (fun c5 => ?_)
  · have _ := c5
    refine And.intro (fun c6 => absurd c6 (by decide)) (fun _ => ?_)
    have hR : RDv (xput σ 1 z3.toNat 0) b n m p := hR
    refine eAdv (σ := (xput σ 1 z3.toNat 0)) hR (fun σ7 f7 hR => ?_)
    have hF := hF.tr f7 (by decide) (by decide)
    have hO : ∀ j : Nat, ((j : Int) ≠ 4 * σ 0 2 + 3) → σ7 1 j = σ 1 j := fun j hj => by rw [f7.1 1 (by decide) (by decide)]; exact hO j hj
    have kl7 : σ7 0 2 = σ 0 2 := hF.2 2 (by decide)
    have hV := (congrFun (f7.1 1 (by decide) (by decide)) (4 * σ 0 2 + 3).toNat).trans hV
    refine And.intro rfl ?_
    refine And.intro (by omega) ?_
    exact hQ _ _ hF (Or.inl ⟨rfl, _, eva_0 (by omega), hR, hV, hO⟩)
  · have _ := c5
    refine And.intro (fun _ => ?_) (fun c8 => absurd (by decide) c8)
    have hR : RDv (xput σ 1 z3.toNat 0) b n m p := hR
    refine ePass (σ := (xput σ 1 z3.toNat 0)) hR (fun c9 σ9 f9 hR => ?_) (fun c9 σ9 f9 hE => ?_)
    · have hF := hF.tr f9 (by decide) (by decide)
      have hO : ∀ j : Nat, ((j : Int) ≠ 4 * σ 0 2 + 3) → σ9 1 j = σ 1 j := fun j hj => by rw [f9.1 1 (by decide) (by decide)]; exact hO j hj
      have kl9 : σ9 0 2 = σ 0 2 := hF.2 2 (by decide)
      have hV := (congrFun (f9.1 1 (by decide) (by decide)) (4 * σ 0 2 + 3).toNat).trans hV
      refine And.intro (fun c10 => absurd c10 (by decide)) (fun _ => ?_)
      have hR : RDv σ9 b n m (tkp b n m p) := hR
      refine eNum (σ := σ9) hR (fun c11 d11 σ11 f11 hR => ?_) (fun c11 σ11 f11 hE => ?_) (fun c11 d11 σ11 f11 hE => ?_)
      · have hF := hF.tr f11 (by decide) (by decide)
        have hO : ∀ j : Nat, ((j : Int) ≠ 4 * σ 0 2 + 3) → σ11 1 j = σ 1 j := fun j hj => by rw [f11.1 1 (by decide) (by decide)]; exact hO j hj
        have kl11 : σ11 0 2 = σ 0 2 := hF.2 2 (by decide)
        have hV := (congrFun (f11.1 1 (by decide) (by decide)) (4 * σ 0 2 + 3).toNat).trans hV
        refine And.intro (fun _ => ?_) (fun c12 => absurd c12 (by decide))
        intro v13 e13 l13 h13
        have e13 : v13 = σ11 0 2 := e13
        intro z14 t14 e14 l14 h14
        try have w14 : t14 = 0 := by omega
        intro z15 t15 e15 l15 h15
        try have w15 : t15 = 0 := by omega
        intro v16 e16 l16 h16
        have e16 : v16 = σ11 2 7 := e16
        refine And.intro (rfl) (And.intro (⟨by omega, by omega⟩) ?_)
        have hF := hF.pt (t := 1) (j := z15.toNat) (v := v16) (by decide) (by decide)
        have hvv : v16 = tkv b n m (tkp b n m p) := by
          have z := hR.tk.2.1 (by omega)
          omega
        have hO : ∀ j : Nat, ((j : Int) ≠ 4 * σ 0 2 + 3) → (xput σ11 1 z15.toNat v16) 1 j = σ 1 j := fun j hj => by
          show xput σ11 1 z15.toNat v16 1 j = σ 1 j
          refine Eq.trans (b := σ11 1 j) ?_ (hO j hj)
          rw [xput_up, up_n (by omega)]
        have hV : (xput σ11 1 z15.toNat v16) 1 (4 * σ 0 2 + 3).toNat = tkv b n m (tkp b n m p) := by
          show xput σ11 1 z15.toNat v16 1 (4 * σ 0 2 + 3).toNat = _
          rw [xput_up, show z15.toNat = (4 * σ 0 2 + 3).toNat from by omega, up_s, hvv]
        have hR : RDv (xput σ11 1 z15.toNat v16) b n m (tkp b n m p) := hR
        refine eAdv (σ := (xput σ11 1 z15.toNat v16)) hR (fun σ18 f18 hR => ?_)
        have hF := hF.tr f18 (by decide) (by decide)
        have hO : ∀ j : Nat, ((j : Int) ≠ 4 * σ 0 2 + 3) → σ18 1 j = σ 1 j := fun j hj => by rw [f18.1 1 (by decide) (by decide)]; exact hO j hj
        have kl18 : σ18 0 2 = σ 0 2 := hF.2 2 (by decide)
        have hV := (congrFun (f18.1 1 (by decide) (by decide)) (4 * σ 0 2 + 3).toNat).trans hV
        refine And.intro rfl ?_
        refine And.intro (by omega) ?_
        exact hQ _ _ hF (Or.inl ⟨rfl, _, eva_4 (by omega) (by omega) (by omega), hR, hV, hO⟩)
      · have hF := hF.tr f11 (by decide) (by decide)
        have hO : ∀ j : Nat, ((j : Int) ≠ 4 * σ 0 2 + 3) → σ11 1 j = σ 1 j := fun j hj => by rw [f11.1 1 (by decide) (by decide)]; exact hO j hj
        have kl11 : σ11 0 2 = σ 0 2 := hF.2 2 (by decide)
        have hV := (congrFun (f11.1 1 (by decide) (by decide)) (4 * σ 0 2 + 3).toNat).trans hV
        refine And.intro (fun c19 => absurd (by decide) c19) (fun _ => ?_)
        refine hX 400 59 _ _ ?_
        refine And.intro rfl ?_
        refine And.intro (by omega) ?_
        exact hQ _ _ hF (Or.inr ⟨rfl, by
          rw [hE.1, hE.2]
          first | exact eva_1 (by omega) (by omega) | exact eva_2 (by omega) (by omega) | exact eva_3 (by omega) (by omega) (by omega)⟩)
      · have hF := hF.tr f11 (by decide) (by decide)
        have hO : ∀ j : Nat, ((j : Int) ≠ 4 * σ 0 2 + 3) → σ11 1 j = σ 1 j := fun j hj => by rw [f11.1 1 (by decide) (by decide)]; exact hO j hj
        have kl11 : σ11 0 2 = σ 0 2 := hF.2 2 (by decide)
        have hV := (congrFun (f11.1 1 (by decide) (by decide)) (4 * σ 0 2 + 3).toNat).trans hV
        refine And.intro (fun c20 => absurd (by decide) c20) (fun _ => ?_)
        refine hX 400 59 _ _ ?_
        refine And.intro rfl ?_
        refine And.intro (by omega) ?_
        exact hQ _ _ hF (Or.inr ⟨rfl, by
          rw [hE.1, hE.2]
          first | exact eva_1 (by omega) (by omega) | exact eva_2 (by omega) (by omega) | exact eva_3 (by omega) (by omega) (by omega)⟩)
    · have hF := hF.tr f9 (by decide) (by decide)
      have hO : ∀ j : Nat, ((j : Int) ≠ 4 * σ 0 2 + 3) → σ9 1 j = σ 1 j := fun j hj => by rw [f9.1 1 (by decide) (by decide)]; exact hO j hj
      have kl9 : σ9 0 2 = σ 0 2 := hF.2 2 (by decide)
      have hV := (congrFun (f9.1 1 (by decide) (by decide)) (4 * σ 0 2 + 3).toNat).trans hV
      refine And.intro (fun _ => ?_) (fun c21 => absurd (by decide) c21)
      refine hX 400 59 _ _ ?_
      refine And.intro rfl ?_
      refine And.intro (by omega) ?_
      exact hQ _ _ hF (Or.inr ⟨rfl, by
        rw [hE.1, hE.2]
        first | exact eva_1 (by omega) (by omega) | exact eva_2 (by omega) (by omega) | exact eva_3 (by omega) (by omega) (by omega)⟩)
