set_option maxHeartbeats 4000000 in
set_option maxRecDepth 100000 in
theorem sX2_mostHeldG {f : Nat → Int} {σ : xS} {p : Int} {Q : Option xV → xS → Prop} (hp0 : GR σ f) (hp1 : VX f) (hp2 : 0 ≤ p ∧ p ≤ 5) (hp3 : 1 ≤ f 0) (hQ : ∀ r : Int, (MH f p.toNat r) → Q (some (xvi r)) σ) : xT kX2_mostHeld [xvr 0, xvi p] σ Q := by
  refine ⟨Nat.le_of_ble_eq_true rfl, fun X hX => ?_⟩
  show X 0 [xvr 0, xvi p, xvu, xvu] σ
  refine hX 400 0 _ _ ?_
  have n0 := hp0.n0 (i := 0) (by decide)
  have n1 := hp0.n0 (i := 1) (by decide)
  have m0 := hp1.1.1.1
  have m1 := hp1.1.1.2.1
  refine And.intro (Nat.le_of_ble_eq_true rfl) ?_
  show xw _ _ _ _ _ _ _ _ _ _ [xvr 0, xvi p, xvi 0, xvu] _ _
  refine And.intro (Nat.le_of_ble_eq_true rfl) ?_
  show xw _ _ _ _ _ _ _ _ _ _ [xvr 0, xvi p, xvi 0, xvi 1] _ _
  have lp_4 : ∀ (m4 : Nat) (b : Int) (i : Int), ((13 - i).toNat) = m4 → (((0 ≤ b ∧ b < i) ∧ (1 ≤ i ∧ i ≤ f 0)) ∧ (∀ j : Nat, (j : Int) < i → HH f p.toNat j ≤ HH f p.toNat b.toNat) ∧ ∀ j : Nat, (j : Int) < b → HH f p.toNat j < HH f p.toNat b.toNat) → X 4 [xvr 0, xvi p, xvi b, xvi i] σ := by
    intro m4
    induction m4 using Nat.strongRecOn with
    | _ m4 ih_4 =>
    intro b i hm_4 hv_4
    obtain ⟨hv_4, hle, hlt⟩ := hv_4
    refine hX 400 4 _ _ ?_
    intro v2 e2 l2 h2
    have e2 : v2 = σ 0 0 := e2
    refine And.intro (fun c3 => ?_) (fun c3 => ?_)
    · refine And.intro rfl ?_
      have hvb := HH_v hp1.1 (p := p.toNat) (k := b.toNat) (by omega) (by omega)
      exact hQ _ ⟨by omega, (fun j hj => by
        by_cases e : (j : Int) < i
        · exact hle j e
        · have z := (HH_v hp1.1 (p := p.toNat) (k := j) (by omega) hj).2 (by omega); omega), hlt⟩
    · refine sX2_held (σ := σ) (p := p) (kind := i) (by omega) (by omega) (fun r4 p4 => ?_)
      have p4 : r4 = HH f p.toNat i.toNat := p4.trans (hp0.vh hp2 (by omega))
      have hv4 := HH_v hp1.1 (p := p.toNat) (k := i.toNat) (by omega) (by omega)
      refine sX2_held (σ := σ) (p := p) (kind := b) (by omega) (by omega) (fun r5 p5 => ?_)
      have p5 : r5 = HH f p.toNat b.toNat := p5.trans (hp0.vh hp2 (by omega))
      have hv5 := HH_v hp1.1 (p := p.toNat) (k := b.toNat) (by omega) (by omega)
      refine And.intro (fun c6 => ?_) (fun c6 => ?_)
      · refine hX 400 29 _ _ ?_
        intro z7 t7 e7 l7 h7
        try have w7 : t7 = 0 := by omega
        show xw _ _ _ _ _ _ _ _ _ _ [xvr 0, xvi p, xvi b, xvi z7] _ _
        exact ih_4 _ (show (13 - z7).toNat < m4 from by omega) b z7 rfl ⟨by omega, (fun j hj => by
                  by_cases e : (j : Int) = i
                  · rw [show j = i.toNat from by omega]; omega
                  · exact hle j (by omega)), hlt⟩
      · refine And.intro (Nat.le_of_ble_eq_true rfl) ?_
        show xw _ _ _ _ _ _ _ _ _ _ [xvr 0, xvi p, xvi i, xvi i] _ _
        refine hX 400 29 _ _ ?_
        intro z8 t8 e8 l8 h8
        try have w8 : t8 = 0 := by omega
        show xw _ _ _ _ _ _ _ _ _ _ [xvr 0, xvi p, xvi i, xvi z8] _ _
        exact ih_4 _ (show (13 - z8).toNat < m4 from by omega) i z8 rfl ⟨by omega, (fun j hj => by
                  by_cases e : (j : Int) = i
                  · rw [show j = i.toNat from by omega]; omega
                  · have z := hle j (by omega); omega), fun j hj => by have z := hle j (by omega); omega⟩
  exact lp_4 _ 0 1 rfl ⟨by omega, (fun j hj => by rw [show j = 0 from by omega]; exact Int.le_refl _), fun j hj => by omega⟩
set_option maxHeartbeats 4000000 in
set_option maxRecDepth 100000 in
theorem sX2_richestG {f : Nat → Int} {σ : xS} {p : Int} {Q : Option xV → xS → Prop} (hp0 : GR σ f) (hp1 : VX f) (hp2 : 0 ≤ p ∧ p ≤ 5) (hp3 : p < f 1) (hp4 : 2 ≤ f 1) (hQ : ∀ r : Int, (RC f p.toNat r) → Q (some (xvi r)) σ) : xT kX2_richest [xvr 0, xvi p] σ Q := by
  refine ⟨Nat.le_of_ble_eq_true rfl, fun X hX => ?_⟩
  show X 0 [xvr 0, xvi p, xvu, xvu] σ
  refine hX 400 0 _ _ ?_
  have n0 := hp0.n0 (i := 0) (by decide)
  have n1 := hp0.n0 (i := 1) (by decide)
  have m0 := hp1.1.1.1
  have m1 := hp1.1.1.2.1
  refine And.intro (Nat.le_of_ble_eq_true rfl) ?_
  show xw _ _ _ _ _ _ _ _ _ _ [xvr 0, xvi p, xvi (-1), xvu] _ _
  refine And.intro (Nat.le_of_ble_eq_true rfl) ?_
  show xw _ _ _ _ _ _ _ _ _ _ [xvr 0, xvi p, xvi (-1), xvi 0] _ _
  have lp_4 : ∀ (m4 : Nat) (b : Int) (q : Int), ((6 - q).toNat) = m4 → (((0 ≤ q ∧ q ≤ f 1) ∧ (-1 ≤ b ∧ b ≤ 5)) ∧ RCI f p.toNat b q) → X 4 [xvr 0, xvi p, xvi b, xvi q] σ := by
    intro m4
    induction m4 using Nat.strongRecOn with
    | _ m4 ih_4 =>
    intro b q hm_4 hv_4
    obtain ⟨hv_4, hR⟩ := hv_4
    refine hX 400 4 _ _ ?_
    intro v2 e2 l2 h2
    have e2 : v2 = σ 0 1 := e2
    refine And.intro (fun c3 => ?_) (fun c3 => ?_)
    · refine And.intro (fun c4 => ?_) (fun c4 => ?_)
      · refine And.intro rfl ?_
        rcases hR with ⟨z, _⟩ | ⟨z1, z2, z3⟩
        · omega
        · exact hQ _ ⟨by omega, (fun j hj => z2 j (by omega)), z3⟩
      · refine sX2_afterG (σ := σ) (p := p) (by omega) (by omega) (fun r5 p5 => ?_)
        rw [n1] at p5
        refine And.intro rfl ?_
        exfalso
        rcases hR with ⟨_, z⟩ | ⟨z, _⟩
        · have z0 := z 0 (by omega)
          have z1 := z 1 (by omega)
          omega
        · omega
    · refine And.intro (fun c6 => ?_) (fun c6 => ?_)
      · refine hX 400 39 _ _ ?_
        intro z7 t7 e7 l7 h7
        try have w7 : t7 = 0 := by omega
        show xw _ _ _ _ _ _ _ _ _ _ [xvr 0, xvi p, xvi b, xvi z7] _ _
        exact ih_4 _ (show (6 - z7).toNat < m4 from by omega) b z7 rfl ⟨by omega, hR.same (by omega) (by omega) (by omega)⟩
      · refine And.intro (fun c8 => ?_) (fun c8 => ?_)
        · refine hX 400 37 _ _ ?_
          refine And.intro (Nat.le_of_ble_eq_true rfl) ?_
          show xw _ _ _ _ _ _ _ _ _ _ [xvr 0, xvi p, xvi q, xvi q] _ _
          refine hX 400 39 _ _ ?_
          intro z9 t9 e9 l9 h9
          try have w9 : t9 = 0 := by omega
          show xw _ _ _ _ _ _ _ _ _ _ [xvr 0, xvi p, xvi q, xvi z9] _ _
          exact ih_4 _ (show (6 - z9).toNat < m4 from by omega) q z9 rfl ⟨by omega, hR.new (by omega) (by omega) (by omega) (by omega)⟩
        · refine And.intro (rfl) (And.intro (⟨by omega, by omega⟩) ?_)
          intro v10 e10 l10 h10
          have e10 : v10 = σ 3 q.toNat := e10
          have g10 : v10 = cd f q.toNat := by rw [e10]; exact hp0.vc (by omega)
          refine And.intro (rfl) (And.intro (⟨by omega, by omega⟩) ?_)
          intro v11 e11 l11 h11
          have e11 : v11 = σ 3 b.toNat := e11
          have g11 : v11 = cd f b.toNat := by rw [e11]; exact hp0.vc (by omega)
          refine And.intro (fun c12 => ?_) (fun c12 => ?_)
          · refine hX 400 39 _ _ ?_
            intro z13 t13 e13 l13 h13
            try have w13 : t13 = 0 := by omega
            show xw _ _ _ _ _ _ _ _ _ _ [xvr 0, xvi p, xvi b, xvi z13] _ _
            exact ih_4 _ (show (6 - z13).toNat < m4 from by omega) b z13 rfl ⟨by omega, hR.same (by omega) (by omega) (by omega)⟩
          · refine hX 400 37 _ _ ?_
            refine And.intro (Nat.le_of_ble_eq_true rfl) ?_
            show xw _ _ _ _ _ _ _ _ _ _ [xvr 0, xvi p, xvi q, xvi q] _ _
            refine hX 400 39 _ _ ?_
            intro z14 t14 e14 l14 h14
            try have w14 : t14 = 0 := by omega
            show xw _ _ _ _ _ _ _ _ _ _ [xvr 0, xvi p, xvi q, xvi z14] _ _
            exact ih_4 _ (show (6 - z14).toNat < m4 from by omega) q z14 rfl ⟨by omega, hR.new (by omega) (by omega) (by omega) (by omega)⟩
  exact lp_4 _ (-1) 0 rfl ⟨by omega, Or.inl ⟨rfl, fun j hj => by omega⟩⟩

