/-! What the public methods answer, on the row. -/
def isP (f : Nat → Int) (k : Int) : Prop := 0 ≤ k ∧ k < f 1
def isK (f : Nat → Int) (k : Int) : Prop := 0 ≤ k ∧ k < f 0
def PK (f : Nat → Int) (k kind : Int) : Prop := (0 ≤ k ∧ k < f 1) ∧ 0 ≤ kind ∧ kind < f 0
/-- an answer where the question is of the game, else -1 -/
def ansN (c : Prop) (r a : Int) : Prop := (c ∧ r = a) ∨ (¬ c ∧ r = -1)
theorem ansN.u {c : Prop} {r r' a : Int} (h : ansN c r a) (h' : ansN c r' a) : r = r' := by
  rcases h with ⟨x, y⟩ | ⟨x, y⟩
  · rcases h' with ⟨_, y'⟩ | ⟨x', _⟩
    · exact y.trans y'.symm
    · exact absurd x x'
  · rcases h' with ⟨x', _⟩ | ⟨_, y'⟩
    · exact absurd x' x
    · exact y.trans y'.symm
def ASK (f : Nat → Int) (a b kind : Int) : Prop := ((0 ≤ a ∧ a < f 1) ∧ (0 ≤ b ∧ b < f 1) ∧ (0 ≤ kind ∧ kind < f 0))
set_option maxHeartbeats 4000000 in
set_option maxRecDepth 100000 in
theorem s_areAskedF {σ : xS} {a b kind : Int} {Q : Option xV → xS → Prop} (hp0 : RI σ) (hQ : ∀ r : Int, ((r = 1 ∧ ASK (σ 2) a b kind) ∨ (r = 0 ∧ ¬ ASK (σ 2) a b kind)) → Q (some (xvi r)) σ) : xT kX11_areAsked [xvr 0, xvi a, xvi b, xvi kind] σ Q := by
  refine ⟨Nat.le_of_ble_eq_true rfl, fun X hX => ?_⟩
  show X 0 [xvr 0, xvi a, xvi b, xvi kind] σ
  refine hX 400 0 _ _ ?_
  refine s_isPerson (σ := σ) (k := a) hp0 (fun r1 p1 => ?_)
  refine And.intro (fun c2 => ?_) (fun c2 => ?_)
  · refine hX 400 28 _ _ ?_
    refine And.intro rfl ?_
    refine And.intro (by omega) ?_
    exact hQ _ (Or.inr ⟨rfl, fun z => by obtain ⟨z1, z2, z3⟩ := z; omega⟩)
  · refine s_isPerson (σ := σ) (k := b) hp0 (fun r3 p3 => ?_)
    refine And.intro (fun c4 => ?_) (fun c4 => ?_)
    · refine hX 400 28 _ _ ?_
      refine And.intro rfl ?_
      refine And.intro (by omega) ?_
      exact hQ _ (Or.inr ⟨rfl, fun z => by obtain ⟨z1, z2, z3⟩ := z; omega⟩)
    · refine s_isKind (σ := σ) (k := kind) hp0 (fun r5 p5 => ?_)
      refine And.intro (fun c6 => ?_) (fun c6 => ?_)
      · refine hX 400 28 _ _ ?_
        refine And.intro rfl ?_
        refine And.intro (by omega) ?_
        exact hQ _ (Or.inr ⟨rfl, fun z => by obtain ⟨z1, z2, z3⟩ := z; omega⟩)
      · refine And.intro rfl ?_
        refine And.intro (by omega) ?_
        exact hQ _ (Or.inl ⟨rfl, by unfold ASK; and_intros <;> omega⟩)
set_option maxHeartbeats 4000000 in
set_option maxRecDepth 100000 in
theorem s_knownF {σ : xS} {k kind : Int} {Q : Option xV → xS → Prop} (hp0 : RI σ) (hp1 : VX (σ 2)) (hQ : ∀ r : Int, ∀ σ' : xS, Fr [] [0] σ σ' → (ansN (PK (σ 2) k kind) r (σ 2 (151 + 13 * k.toNat + kind.toNat))) → Q (some (xvi r)) σ') : xT kX11_known [xvr 0, xvi k, xvi kind] σ Q := by
  refine ⟨Nat.le_of_ble_eq_true rfl, fun X hX => ?_⟩
  show X 0 [xvr 0, xvi k, xvi kind] σ
  have hF : Fr [] [0] σ σ := Fr.rf
  refine hX 400 0 _ _ ?_
  have hF := hF.p (j := 0) (v := 0) (by decide)
  have hI := (RK.rf hp0 |>.p0 (j := 0) (v := 0) (by decide) (by decide) (by decide)).1
  have m0 := hp1.1.1.1
  have m1 := hp1.1.1.2.1
  refine s_isPerson (σ := (xput σ 0 0 0)) (k := k) hI (fun r2 p2 => ?_)
  have p2 : (r2 = 1 ∧ 0 ≤ k ∧ k < σ 2 1) ∨ (r2 = 0 ∧ (k < 0 ∨ σ 2 1 ≤ k)) := p2
  refine And.intro (fun c3 => ?_) (fun c3 => ?_)
  · refine hX 400 39 _ _ ?_
    refine And.intro rfl ?_
    exact hQ _ _ hF (Or.inr ⟨fun z => by obtain ⟨z1, z2⟩ := z; omega, rfl⟩)
  · refine s_isKind (σ := (xput σ 0 0 0)) (k := kind) hI (fun r4 p4 => ?_)
    have p4 : (r4 = 1 ∧ 0 ≤ kind ∧ kind < σ 2 0) ∨ (r4 = 0 ∧ (kind < 0 ∨ σ 2 0 ≤ kind)) := p4
    refine And.intro (fun c5 => ?_) (fun c5 => ?_)
    · refine hX 400 39 _ _ ?_
      refine And.intro rfl ?_
      exact hQ _ _ hF (Or.inr ⟨fun z => by obtain ⟨z1, z2⟩ := z; omega, rfl⟩)
    · intro z6 t6 e6 l6 h6
      try have w6 : t6 = 0 := by omega
      intro z7 t7 e7 l7 h7
      try have w7 : t7 = 0 := by omega
      intro z8 t8 e8 l8 h8
      try have w8 : t8 = 0 := by omega
      refine And.intro (rfl) (And.intro (⟨by omega, by omega⟩) ?_)
      intro v9 e9 l9 h9
      have e9 : v9 = σ 2 z8.toNat := e9
      rw [show z8.toNat = (151 + 13 * k.toNat + kind.toNat) from by omega] at e9
      refine And.intro rfl ?_
      exact hQ _ _ hF (Or.inl ⟨⟨by omega, by omega⟩, by omega⟩)
set_option maxHeartbeats 4000000 in
set_option maxRecDepth 100000 in
theorem s_canF {σ : xS} {k kind : Int} {Q : Option xV → xS → Prop} (hp0 : RI σ) (hp1 : VX (σ 2)) (hQ : ∀ r : Int, ∀ σ' : xS, Fr [] [0] σ σ' → (ansN (PK (σ 2) k kind) r (canF (σ 2) k.toNat kind)) → Q (some (xvi r)) σ') : xT kX11_can [xvr 0, xvi k, xvi kind] σ Q := by
  refine ⟨Nat.le_of_ble_eq_true rfl, fun X hX => ?_⟩
  show X 0 [xvr 0, xvi k, xvi kind, xvu, xvu] σ
  have hF : Fr [] [0] σ σ := Fr.rf
  refine hX 400 0 _ _ ?_
  have hF := hF.p (j := 0) (v := 0) (by decide)
  have hI := (RK.rf hp0 |>.p0 (j := 0) (v := 0) (by decide) (by decide) (by decide)).1
  have m0 := hp1.1.1.1
  have m1 := hp1.1.1.2.1
  refine s_isPerson (σ := (xput σ 0 0 0)) (k := k) hI (fun r2 p2 => ?_)
  have p2 : (r2 = 1 ∧ 0 ≤ k ∧ k < σ 2 1) ∨ (r2 = 0 ∧ (k < 0 ∨ σ 2 1 ≤ k)) := p2
  refine And.intro (fun c3 => ?_) (fun c3 => ?_)
  · refine hX 400 21 _ _ ?_
    refine And.intro rfl ?_
    exact hQ _ _ hF (Or.inr ⟨fun z => by obtain ⟨z1, z2⟩ := z; omega, rfl⟩)
  · refine s_isKind (σ := (xput σ 0 0 0)) (k := kind) hI (fun r4 p4 => ?_)
    have p4 : (r4 = 1 ∧ 0 ≤ kind ∧ kind < σ 2 0) ∨ (r4 = 0 ∧ (kind < 0 ∨ σ 2 0 ≤ kind)) := p4
    refine And.intro (fun c5 => ?_) (fun c5 => ?_)
    · refine And.intro (Nat.le_of_ble_eq_true rfl) ?_
      show xw _ _ _ _ _ _ _ _ _ _ [xvr 0, xvi k, xvi kind, xvi 0, xvu] _ _
      have hw := hp1.1.w k.toNat (by omega)
      refine And.intro (Nat.le_of_ble_eq_true rfl) ?_
      show xw _ _ _ _ _ _ _ _ _ _ [xvr 0, xvi k, xvi kind, xvi 0, xvi 0] _ _
      have lp_28 : ∀ (m28 : Nat) (n : Int) (i : Int), ((52 - i).toNat) = m28 → ((0 ≤ i ∧ i ≤ 52 ∧ (i ≤ σ 2 (229 + k.toNat))) ∧ n = canN (σ 2) k.toNat kind i.toNat) → X 28 [xvr 0, xvi k, xvi kind, xvi n, xvi i] (xput σ 0 0 0) := by
        intro m28
        induction m28 using Nat.strongRecOn with
        | _ m28 ih_28 =>
        intro n i hm_28 hv_28
        obtain ⟨hv_28, hn⟩ := hv_28
        have hnn := can_nn (f := σ 2) (p := k.toNat) (kind := kind) i.toNat
        refine hX 400 28 _ _ ?_
        intro z7 t7 e7 l7 h7
        try have w7 : t7 = 0 := by omega
        refine And.intro (rfl) (And.intro (⟨by omega, by omega⟩) ?_)
        intro v8 e8 l8 h8
        have e8 : v8 = σ 2 z7.toNat := e8
        rw [show z7.toNat = 229 + k.toNat from by omega] at e8
        refine And.intro (fun c9 => ?_) (fun c9 => ?_)
        · refine And.intro rfl ?_
          exact hQ _ _ hF (Or.inl ⟨⟨by omega, by omega⟩, by unfold canF; rw [hn, show i.toNat = (σ 2 (229 + k.toNat)).toNat from by omega]⟩)
        · intro z10 t10 e10 l10 h10
          try have w10 : t10 = 0 := by omega
          intro z11 t11 e11 l11 h11
          try have w11 : t11 = 0 := by omega
          intro z12 t12 e12 l12 h12
          try have w12 : t12 = 0 := by omega
          refine And.intro (rfl) (And.intro (⟨by omega, by omega⟩) ?_)
          intro v13 e13 l13 h13
          have e13 : v13 = σ 2 z12.toNat := e13
          rw [show z12.toNat = 235 + 52 * k.toNat + i.toNat from by omega] at e13
          have hm := hp1.2 k.toNat i.toNat (by omega) (by omega)
          refine s_bitOfF (σ := (xput σ 0 0 0)) (set := v13) (kk := kind) (by omega) (by omega) (fun r14 p14 => ?_)
          have hb0 := bF_r v13 kind
          have hbe : bF v13 kind = bF (σ 2 (235 + 52 * k.toNat + i.toNat)) kind := by rw [show v13 = σ 2 (235 + 52 * k.toNat + i.toNat) from by omega]
          refine And.intro (fun c15 => ?_) (fun c15 => ?_)
          · intro z16 t16 e16 l16 h16
            try have w16 : t16 = 0 := by omega
            refine And.intro (Nat.le_of_ble_eq_true rfl) ?_
            show xw _ _ _ _ _ _ _ _ _ _ [xvr 0, xvi k, xvi kind, xvi z16, xvi i] _ _
            intro z17 t17 e17 l17 h17
            try have w17 : t17 = 0 := by omega
            show xw _ _ _ _ _ _ _ _ _ _ [xvr 0, xvi k, xvi kind, xvi z16, xvi z17] _ _
            exact ih_28 _ (show (52 - z17).toNat < m28 from by omega) z16 z17 rfl ⟨by omega, by
                  rw [show z17.toNat = i.toNat + 1 from by omega]
                  show z16 = canN (σ 2) k.toNat kind i.toNat + (if bF (σ 2 (235 + 52 * k.toNat + i.toNat)) kind = 0 then 1 else 0)
                  first | (rw [if_pos (by omega)]; omega) | (rw [if_neg (by omega)]; omega)⟩
          · intro z18 t18 e18 l18 h18
            try have w18 : t18 = 0 := by omega
            refine And.intro (Nat.le_of_ble_eq_true rfl) ?_
            show xw _ _ _ _ _ _ _ _ _ _ [xvr 0, xvi k, xvi kind, xvi z18, xvi i] _ _
            intro z19 t19 e19 l19 h19
            try have w19 : t19 = 0 := by omega
            show xw _ _ _ _ _ _ _ _ _ _ [xvr 0, xvi k, xvi kind, xvi z18, xvi z19] _ _
            exact ih_28 _ (show (52 - z19).toNat < m28 from by omega) z18 z19 rfl ⟨by omega, by
                  rw [show z19.toNat = i.toNat + 1 from by omega]
                  show z18 = canN (σ 2) k.toNat kind i.toNat + (if bF (σ 2 (235 + 52 * k.toNat + i.toNat)) kind = 0 then 1 else 0)
                  first | (rw [if_pos (by omega)]; omega) | (rw [if_neg (by omega)]; omega)⟩
      exact lp_28 _ 0 0 rfl ⟨by have := hp1.1.w k.toNat (by omega); omega, rfl⟩
    · refine hX 400 21 _ _ ?_
      refine And.intro rfl ?_
      exact hQ _ _ hF (Or.inr ⟨fun z => by obtain ⟨z1, z2⟩ := z; omega, rfl⟩)
set_option maxHeartbeats 4000000 in
set_option maxRecDepth 100000 in
theorem s_whyF {σ : xS} {a b kind : Int} {Q : Option xV → xS → Prop} (hp0 : RI σ) (hp1 : VX (σ 2)) (hQ : ∀ r : Int, ∀ σ' : xS, Fr [] [0] σ σ' → (ansN (ASK (σ 2) a b kind) r (whyF (σ 2) a b kind.toNat)) → Q (some (xvi r)) σ') : xT kX11_why [xvr 0, xvi a, xvi b, xvi kind] σ Q := by
  refine ⟨Nat.le_of_ble_eq_true rfl, fun X hX => ?_⟩
  show X 0 [xvr 0, xvi a, xvi b, xvi kind] σ
  have hF : Fr [] [0] σ σ := Fr.rf
  refine hX 400 0 _ _ ?_
  have hF := hF.p (j := 0) (v := 0) (by decide)
  have hI := (RK.rf hp0 |>.p0 (j := 0) (v := 0) (by decide) (by decide) (by decide)).1
  have m0 := hp1.1.1.1
  have m1 := hp1.1.1.2.1
  refine s_areAskedF (σ := (xput σ 0 0 0)) hI (a := a) (b := b) (kind := kind) (fun r2 p2 => ?_)
  have p2 : (r2 = 1 ∧ ASK (σ 2) a b kind) ∨ (r2 = 0 ∧ ¬ ASK (σ 2) a b kind) := p2
  refine And.intro (fun c3 => ?_) (fun c3 => ?_)
  · refine And.intro rfl ?_
    exact hQ _ _ hF (Or.inr ⟨by
      rcases p2 with z | z
      · omega
      · exact z.2, rfl⟩)
  · obtain ⟨hA1, hA2, hA3⟩ : ASK (σ 2) a b kind := by
      rcases p2 with z | z
      · exact z.2
      · omega
    refine s_whyOfF (σ := (xput σ 0 0 0)) (a := a) (b := b) (kind := kind) hp1.1 (by omega) (by omega) (fun r4 p4 => ?_)
    have p4 : r4 = whyF (σ 2) a b kind.toNat := p4
    refine And.intro rfl ?_
    exact hQ _ _ hF (Or.inl ⟨⟨hA1, hA2, hA3⟩, by omega⟩)

