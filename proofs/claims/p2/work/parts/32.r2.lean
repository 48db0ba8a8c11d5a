set_option maxHeartbeats 4000000 in
set_option maxRecDepth 100000 in
theorem s_hand0 {σ : xS} {k kind : Int} {Q : Option xV → xS → Prop} (hI : RI σ) (hp0 : 0 ≤ k ∧ k ≤ 5) (hp1 : 0 ≤ kind ∧ kind ≤ 12) (hQ : ∀ r : Int, (r = σ 2 (60 + 13 * k + kind).toNat ∧ 0 ≤ r ∧ r ≤ 4) → Q (some (xvi r)) σ) : xT kX11_handOf [xvr 0, xvi k, xvi kind, xvi 0] σ Q := by
  refine ⟨Nat.le_of_ble_eq_true rfl, fun X hX => ?_⟩
  show X 0 [xvr 0, xvi k, xvi kind, xvi 0] σ
  have hI : RK σ σ := RK.rf hI
  refine hX 400 0 _ _ ?_
  intro z1 t1 e1 l1 h1
  try have w1 : t1 = 0 := by omega
  intro z2 t2 e2 l2 h2
  try have w2 : t2 = 0 := by omega
  intro z3 t3 e3 l3 h3
  try have w3 : t3 = 0 := by omega
  refine And.intro (rfl) (And.intro (⟨by omega, by omega⟩) ?_)
  intro v4 e4 l4 h4
  have e4 : v4 = σ 2 z3.toNat := e4
  intro z5 t5 e5 l5 h5
  try have w5 : t5 = 0 := by omega
  refine And.intro (rfl) (And.intro (⟨by omega, by omega⟩) ?_)
  intro z7 t7 e7 l7 h7
  try have w7 : t7 = 0 := by omega
  intro z8 t8 e8 l8 h8
  try have w8 : t8 = 0 := by omega
  intro z9 t9 e9 l9 h9
  try have w9 : t9 = 0 := by omega
  refine And.intro (rfl) (And.intro (⟨by omega, by omega⟩) ?_)
  intro v10 e10 l10 h10
  have e10 : v10 = (xput σ 2 z3.toNat z5) 2 z9.toNat := e10
  refine And.intro rfl ?_
  have hx : xput σ 2 z3.toNat z5 = σ := xput_id (by rw [← e4]; omega)
  have hz : z9 = 60 + 13 * k + kind := by omega
  rw [hx] at e10
  rw [hz] at e10
  have r1 := hI.1.handI (z := 60 + 13 * k + kind) (by omega) (by omega)
  have hq := hQ v10 ⟨e10, by omega, by omega⟩
  rw [← hx] at hq
  exact hq
set_option maxHeartbeats 4000000 in
set_option maxRecDepth 100000 in
theorem s_whyOf {σ : xS} {a b kind : Int} {Q : Option xV → xS → Prop} (hI : RI σ) (hp0 : 0 ≤ a ∧ a < σ 2 1) (hp1 : 0 ≤ kind ∧ kind < σ 2 0) (hQ : ∀ r : Int, ((r = 0 ∧ σ 2 4 = a ∧ 1 ≤ σ 2 (60 + 13 * a + kind).toNat ∧ ¬ a = b) ∨ 1 ≤ r) → Q (some (xvi r)) σ) : xT kX11_whyOf [xvr 0, xvi a, xvi b, xvi kind] σ Q := by
  refine ⟨Nat.le_of_ble_eq_true rfl, fun X hX => ?_⟩
  show X 0 [xvr 0, xvi a, xvi b, xvi kind] σ
  have hI : RK σ σ := RK.rf hI
  have hb0 := hI.1.kinds; have hb1 := hI.1.persons
  refine hX 400 0 _ _ ?_
  refine And.intro (rfl) (And.intro (⟨by omega, by omega⟩) ?_)
  intro v1 e1 l1 h1
  have e1 : v1 = σ 2 4 := e1
  have rv1 : -1 ≤ (σ 2 4) ∧ (σ 2 4) < (σ 2 1) := hI.1.turn
  refine And.intro (fun c2 => ?_) (fun c2 => ?_)
  · refine And.intro (rfl) (And.intro (⟨by omega, by omega⟩) ?_)
    intro v3 e3 l3 h3
    have e3 : v3 = σ 2 4 := e3
    have rv3 : -1 ≤ (σ 2 4) ∧ (σ 2 4) < (σ 2 1) := hI.1.turn
    refine And.intro (fun c4 => ?_) (fun c4 => ?_)
    · refine s_hand0 (σ := σ) (k := a) (kind := kind) hI.1 (show 0 ≤ a ∧ a ≤ 5 from by omega) (show 0 ≤ kind ∧ kind ≤ 12 from by omega) (fun r5 p5 => ?_)
      have p5 : r5 = σ 2 (60 + 13 * a + kind).toNat ∧ 0 ≤ r5 ∧ r5 ≤ 4 := p5
      refine And.intro (fun c6 => ?_) (fun c6 => ?_)
      · refine And.intro (fun c7 => ?_) (fun c7 => ?_)
        · refine And.intro rfl ?_
          exact hQ _ (show (0 = 0 ∧ σ 2 4 = a ∧ 1 ≤ σ 2 (60 + 13 * a + kind).toNat ∧ ¬ a = b) ∨ 1 ≤ 0 from by first | trivial | omega)
        · refine And.intro rfl ?_
          exact hQ _ (show (4 = 0 ∧ σ 2 4 = a ∧ 1 ≤ σ 2 (60 + 13 * a + kind).toNat ∧ ¬ a = b) ∨ 1 ≤ 4 from by first | trivial | omega)
      · refine And.intro rfl ?_
        exact hQ _ (show (3 = 0 ∧ σ 2 4 = a ∧ 1 ≤ σ 2 (60 + 13 * a + kind).toNat ∧ ¬ a = b) ∨ 1 ≤ 3 from by first | trivial | omega)
    · refine And.intro rfl ?_
      exact hQ _ (show (2 = 0 ∧ σ 2 4 = a ∧ 1 ≤ σ 2 (60 + 13 * a + kind).toNat ∧ ¬ a = b) ∨ 1 ≤ 2 from by first | trivial | omega)
  · refine And.intro rfl ?_
    exact hQ _ (show (1 = 0 ∧ σ 2 4 = a ∧ 1 ≤ σ 2 (60 + 13 * a + kind).toNat ∧ ¬ a = b) ∨ 1 ≤ 1 from by first | trivial | omega)
set_option maxHeartbeats 4000000 in
set_option maxRecDepth 100000 in
theorem s_why {σ : xS} {a b kind : Int} {Q : Option xV → xS → Prop} (hI : RI σ) (hQ : ∀ r : Int, ∀ σ' : xS, RK σ σ' → Q (some (xvi r)) σ') : xT kX11_why [xvr 0, xvi a, xvi b, xvi kind] σ Q := by
  refine ⟨Nat.le_of_ble_eq_true rfl, fun X hX => ?_⟩
  show X 0 [xvr 0, xvi a, xvi b, xvi kind] σ
  have hI : RK σ σ := RK.rf hI
  have hb0 := hI.1.kinds; have hb1 := hI.1.persons
  refine hX 400 0 _ _ ?_
  have hI := hI.p0 (j := 0) (v := 0) (by decide) (by decide) (by decide)
  refine s_areAsked (σ := (xput σ 0 0 0)) (a := a) (b := b) (kind := kind) hI.1  (fun r2 p2 => ?_)
  have p2 : (r2 = 1 ∧ (0 ≤ a ∧ a < (σ 2 1)) ∧ (0 ≤ b ∧ b < (σ 2 1)) ∧ (0 ≤ kind ∧ kind < (σ 2 0))) ∨ r2 = 0 := p2
  refine And.intro (fun c3 => ?_) (fun c3 => ?_)
  · refine And.intro rfl ?_
    exact hQ _ _ hI 
  · refine s_whyOf (σ := (xput σ 0 0 0)) (a := a) (b := b) (kind := kind) hI.1 (show 0 ≤ a ∧ a < (σ 2 1) from by omega) (show 0 ≤ kind ∧ kind < (σ 2 0) from by omega) (fun r4 p4 => ?_)
    have p4 : (r4 = 0 ∧ (σ 2 4) = a ∧ 1 ≤ σ 2 (60 + 13 * a + kind).toNat ∧ ¬ a = b) ∨ 1 ≤ r4 := p4
    refine And.intro rfl ?_
    exact hQ _ _ hI 
set_option maxHeartbeats 4000000 in
set_option maxRecDepth 100000 in
theorem s_hand {σ : xS} {k kind : Int} {Q : Option xV → xS → Prop} (hI : RI σ) (hQ : ∀ r : Int, ∀ σ' : xS, RK σ σ' → Q (some (xvi r)) σ') : xT kX11_hand [xvr 0, xvi k, xvi kind] σ Q := by
  refine ⟨Nat.le_of_ble_eq_true rfl, fun X hX => ?_⟩
  show X 0 [xvr 0, xvi k, xvi kind] σ
  have hI : RK σ σ := RK.rf hI
  have hb0 := hI.1.kinds; have hb1 := hI.1.persons
  refine hX 400 0 _ _ ?_
  refine s_isPerson (σ := σ) (k := k) hI.1  (fun r1 p1 => ?_)
  have p1 : (r1 = 1 ∧ 0 ≤ k ∧ k < (σ 2 1)) ∨ (r1 = 0 ∧ (k < 0 ∨ (σ 2 1) ≤ k)) := p1
  refine And.intro (fun c2 => ?_) (fun c2 => ?_)
  · refine s_throwsIf (σ := σ) (is := 1) hI.1 (show 1 = 0 ∨ 1 = 1 from by omega) (fun r3 σ3 i3 p3 => ?_)
    have hI := hI.tr i3
    have hb0 : 0 ≤ (σ3 2 0) ∧ (σ3 2 0) ≤ 13 := hI.1.kinds; have hb1 : 0 ≤ (σ3 2 1) ∧ (σ3 2 1) ≤ 6 := hI.1.persons
    have p3 : r3 = 1 := p3
    refine And.intro (fun c4 => ?_) (fun c4 => ?_)
    · refine s_hand0 (σ := σ3) (k := k) (kind := kind) hI.1 (show 0 ≤ k ∧ k ≤ 5 from by omega) (show 0 ≤ kind ∧ kind ≤ 12 from by omega) (fun r5 p5 => ?_)
      have p5 : r5 = σ3 2 (60 + 13 * k + kind).toNat ∧ 0 ≤ r5 ∧ r5 ≤ 4 := p5
      refine And.intro rfl ?_
      exact hQ _ _ hI 
    · refine And.intro rfl ?_
      exact hQ _ _ hI 
  · refine s_isKind (σ := σ) (k := kind) hI.1  (fun r6 p6 => ?_)
    have p6 : (r6 = 1 ∧ 0 ≤ kind ∧ kind < (σ 2 0)) ∨ (r6 = 0 ∧ (kind < 0 ∨ (σ 2 0) ≤ kind)) := p6
    refine And.intro (fun c7 => ?_) (fun c7 => ?_)
    · refine s_throwsIf (σ := σ) (is := 0) hI.1 (show 0 = 0 ∨ 0 = 1 from by omega) (fun r8 σ8 i8 p8 => ?_)
      have hI := hI.tr i8
      have hb0 : 0 ≤ (σ8 2 0) ∧ (σ8 2 0) ≤ 13 := hI.1.kinds; have hb1 : 0 ≤ (σ8 2 1) ∧ (σ8 2 1) ≤ 6 := hI.1.persons
      have p8 : r8 = 0 := p8
      refine And.intro (fun c9 => ?_) (fun c9 => ?_)
      · refine s_hand0 (σ := σ8) (k := k) (kind := kind) hI.1 (show 0 ≤ k ∧ k ≤ 5 from by omega) (show 0 ≤ kind ∧ kind ≤ 12 from by omega) (fun r10 p10 => ?_)
        have p10 : r10 = σ8 2 (60 + 13 * k + kind).toNat ∧ 0 ≤ r10 ∧ r10 ≤ 4 := p10
        refine And.intro rfl ?_
        exact hQ _ _ hI 
      · refine And.intro rfl ?_
        exact hQ _ _ hI 
    · refine s_throwsIf (σ := σ) (is := 1) hI.1 (show 1 = 0 ∨ 1 = 1 from by omega) (fun r11 σ11 i11 p11 => ?_)
      have hI := hI.tr i11
      have hb0 : 0 ≤ (σ11 2 0) ∧ (σ11 2 0) ≤ 13 := hI.1.kinds; have hb1 : 0 ≤ (σ11 2 1) ∧ (σ11 2 1) ≤ 6 := hI.1.persons
      have p11 : r11 = 1 := p11
      refine And.intro (fun c12 => ?_) (fun c12 => ?_)
      · refine s_hand0 (σ := σ11) (k := k) (kind := kind) hI.1 (show 0 ≤ k ∧ k ≤ 5 from by omega) (show 0 ≤ kind ∧ kind ≤ 12 from by omega) (fun r13 p13 => ?_)
        have p13 : r13 = σ11 2 (60 + 13 * k + kind).toNat ∧ 0 ≤ r13 ∧ r13 ≤ 4 := p13
        refine And.intro rfl ?_
        exact hQ _ _ hI 
      · refine And.intro rfl ?_
        exact hQ _ _ hI 
set_option maxHeartbeats 4000000 in
set_option maxRecDepth 100000 in
theorem s_inHands {σ : xS} {kind : Int} {Q : Option xV → xS → Prop} (hI : RI σ) (hp0 : 0 ≤ kind ∧ kind ≤ 12) (hQ : ∀ r : Int, Q (some (xvi r)) σ) : xT kX11_inHands [xvr 0, xvi kind] σ Q := by
  refine ⟨Nat.le_of_ble_eq_true rfl, fun X hX => ?_⟩
  show X 0 [xvr 0, xvi kind, xvu, xvu] σ
  have hI : RK σ σ := RK.rf hI
  have hb0 := hI.1.kinds; have hb1 := hI.1.persons
  refine hX 400 0 _ _ ?_
  refine And.intro (Nat.le_of_ble_eq_true rfl) ?_
  refine And.intro (Nat.le_of_ble_eq_true rfl) ?_
  have lp_4 : ∀ (m4 : Nat) (n : Int) (q : Int), ((σ 2 1 - q).toNat) = m4 → (0 ≤ q ∧ q ≤ σ 2 1) → X 4 [xvr 0, xvi kind, xvi n, xvi q] σ := by
    intro m4
    induction m4 using Nat.strongRecOn with
    | _ m4 ih_4 =>
    intro n q hm_4 hv_4
    refine hX 400 4 _ _ ?_
    refine And.intro (rfl) (And.intro (⟨by omega, by omega⟩) ?_)
    intro v2 e2 l2 h2
    have e2 : v2 = σ 2 1 := e2
    have rv2 : 0 ≤ (σ 2 1) ∧ (σ 2 1) ≤ 6 := hI.1.persons
    refine And.intro (fun c3 => ?_) (fun c3 => ?_)
    · refine And.intro rfl ?_
      exact hQ _ 
    · refine s_hand0 (σ := σ) (k := q) (kind := kind) hI.1 (show 0 ≤ q ∧ q ≤ 5 from by omega) (show 0 ≤ kind ∧ kind ≤ 12 from by omega) (fun r4 p4 => ?_)
      have p4 : r4 = σ 2 (60 + 13 * q + kind).toNat ∧ 0 ≤ r4 ∧ r4 ≤ 4 := p4
      intro z5 t5 e5 l5 h5
      try have w5 : t5 = 0 := by omega
      refine And.intro (Nat.le_of_ble_eq_true rfl) ?_
      intro z6 t6 e6 l6 h6
      try have w6 : t6 = 0 := by omega
      exact ih_4 _ (by omega) z5 z6 rfl (show 0 ≤ z6 ∧ z6 ≤ σ 2 1 from by first | trivial | omega | (refine ⟨by assumption, ?_⟩; omega) | (refine ⟨?_, ?_⟩ <;> omega))
  exact lp_4 _ 0 0 rfl (show 0 ≤ 0 ∧ 0 ≤ σ 2 1 from by first | trivial | omega | (refine ⟨by assumption, ?_⟩; omega) | (refine ⟨?_, ?_⟩ <;> omega))
set_option maxHeartbeats 4000000 in
set_option maxRecDepth 100000 in
theorem s_gains {σ : xS} {k : Int} {Q : Option xV → xS → Prop} (hI : RI σ) (hQ : ∀ r : Int, ∀ σ' : xS, RK σ σ' → Q (some (xvi r)) σ') : xT kX11_gains [xvr 0, xvi k] σ Q := by
  refine ⟨Nat.le_of_ble_eq_true rfl, fun X hX => ?_⟩
  show X 0 [xvr 0, xvi k, xvu, xvu] σ
  have hI : RK σ σ := RK.rf hI
  have hb0 := hI.1.kinds; have hb1 := hI.1.persons
  refine hX 400 0 _ _ ?_
  have hI := hI.p0 (j := 0) (v := 0) (by decide) (by decide) (by decide)
  refine s_isPerson (σ := (xput σ 0 0 0)) (k := k) hI.1  (fun r2 p2 => ?_)
  have p2 : (r2 = 1 ∧ 0 ≤ k ∧ k < (σ 2 1)) ∨ (r2 = 0 ∧ (k < 0 ∨ (σ 2 1) ≤ k)) := p2
  refine And.intro (fun c3 => ?_) (fun c3 => ?_)
  · refine s_booksOf (σ := (xput σ 0 0 0)) (k := k)  (fun r4 => ?_)
    refine And.intro (Nat.le_of_ble_eq_true rfl) ?_
    refine And.intro (Nat.le_of_ble_eq_true rfl) ?_
    have lp_23 : ∀ (m23 : Nat) (n : Int) (kind : Int), ((13 - kind).toNat) = m23 → (0 ≤ kind ∧ kind ≤ 13) → X 23 [xvr 0, xvi k, xvi n, xvi kind] (xput σ 0 0 0) := by
      intro m23
      induction m23 using Nat.strongRecOn with
      | _ m23 ih_23 =>
      intro n kind hm_23 hv_23
      refine hX 400 23 _ _ ?_
      refine And.intro (fun c6 => ?_) (fun c6 => ?_)
      · refine And.intro rfl ?_
        exact hQ _ _ hI 
      · refine s_hand0 (σ := (xput σ 0 0 0)) (k := k) (kind := kind) hI.1 (show 0 ≤ k ∧ k ≤ 5 from by omega) (show 0 ≤ kind ∧ kind ≤ 12 from by omega) (fun r7 p7 => ?_)
        have p7 : r7 = σ 2 (60 + 13 * k + kind).toNat ∧ 0 ≤ r7 ∧ r7 ≤ 4 := p7
        refine And.intro (fun c8 => ?_) (fun c8 => ?_)
        · intro z9 t9 e9 l9 h9
          try have w9 : t9 = 0 := by omega
          refine And.intro (Nat.le_of_ble_eq_true rfl) ?_
          intro z10 t10 e10 l10 h10
          try have w10 : t10 = 0 := by omega
          exact ih_23 _ (by omega) z9 z10 rfl (show 0 ≤ z10 ∧ z10 ≤ 13 from by first | trivial | omega | (refine ⟨by assumption, ?_⟩; omega) | (refine ⟨?_, ?_⟩ <;> omega))
        · refine s_inHands (σ := (xput σ 0 0 0)) (kind := kind) hI.1 (show 0 ≤ kind ∧ kind ≤ 12 from by omega) (fun r11 => ?_)
          refine And.intro (fun c12 => ?_) (fun c12 => ?_)
          · intro z13 t13 e13 l13 h13
            try have w13 : t13 = 0 := by omega
            refine And.intro (Nat.le_of_ble_eq_true rfl) ?_
            intro z14 t14 e14 l14 h14
            try have w14 : t14 = 0 := by omega
            exact ih_23 _ (by omega) z13 z14 rfl (show 0 ≤ z14 ∧ z14 ≤ 13 from by first | trivial | omega | (refine ⟨by assumption, ?_⟩; omega) | (refine ⟨?_, ?_⟩ <;> omega))
          · intro z15 t15 e15 l15 h15
            try have w15 : t15 = 0 := by omega
            refine And.intro (Nat.le_of_ble_eq_true rfl) ?_
            intro z16 t16 e16 l16 h16
            try have w16 : t16 = 0 := by omega
            exact ih_23 _ (by omega) z15 z16 rfl (show 0 ≤ z16 ∧ z16 ≤ 13 from by first | trivial | omega | (refine ⟨by assumption, ?_⟩; omega) | (refine ⟨?_, ?_⟩ <;> omega))
    exact lp_23 _ r4 0 rfl (show 0 ≤ 0 ∧ 0 ≤ 13 from by first | trivial | omega | (refine ⟨by assumption, ?_⟩; omega) | (refine ⟨?_, ?_⟩ <;> omega))
  · refine And.intro rfl ?_
    exact hQ _ _ hI 
set_option maxHeartbeats 4000000 in
set_option maxRecDepth 100000 in
theorem s_leader {σ : xS} {Q : Option xV → xS → Prop} (hI : RI σ) (hQ : ∀ r : Int, ∀ σ' : xS, RK σ σ' → Q (some (xvi r)) σ') : xT kX11_leader [xvr 0] σ Q := by
  refine ⟨Nat.le_of_ble_eq_true rfl, fun X hX => ?_⟩
  show X 0 [xvr 0, xvu, xvu] σ
  have hI : RK σ σ := RK.rf hI
  have hb0 := hI.1.kinds; have hb1 := hI.1.persons
  refine hX 400 0 _ _ ?_
  have hI := hI.p0 (j := 0) (v := 0) (by decide) (by decide) (by decide)
  refine And.intro (Nat.le_of_ble_eq_true rfl) ?_
  refine And.intro (Nat.le_of_ble_eq_true rfl) ?_
  have lp_9 : ∀ (m9 : Nat) (best : Int) (k : Int), ((6 - k).toNat) = m9 → (0 ≤ k) → X 9 [xvr 0, xvi best, xvi k] (xput σ 0 0 0) := by
    intro m9
    induction m9 using Nat.strongRecOn with
    | _ m9 ih_9 =>
    intro best k hm_9 hv_9
    refine hX 400 9 _ _ ?_
    refine And.intro (rfl) (And.intro (⟨by omega, by omega⟩) ?_)
    intro v3 e3 l3 h3
    have e3 : v3 = σ 2 1 := e3
    have rv3 : 0 ≤ (σ 2 1) ∧ (σ 2 1) ≤ 6 := hI.1.persons
    refine And.intro (fun c4 => ?_) (fun c4 => ?_)
    · refine And.intro rfl ?_
      exact hQ _ _ hI 
    · refine And.intro (fun c5 => ?_) (fun c5 => ?_)
      · refine hX 400 36 _ _ ?_
        refine And.intro (Nat.le_of_ble_eq_true rfl) ?_
        refine hX 400 38 _ _ ?_
        intro z6 t6 e6 l6 h6
        try have w6 : t6 = 0 := by omega
        exact ih_9 _ (by omega) k z6 rfl (show 0 ≤ z6 from by first | trivial | omega | (refine ⟨by assumption, ?_⟩; omega) | (refine ⟨?_, ?_⟩ <;> omega))
      · refine s_booksOf (σ := (xput σ 0 0 0)) (k := k)  (fun r7 => ?_)
        refine s_booksOf (σ := (xput σ 0 0 0)) (k := best)  (fun r8 => ?_)
        refine And.intro (fun c9 => ?_) (fun c9 => ?_)
        · refine hX 400 38 _ _ ?_
          intro z10 t10 e10 l10 h10
          try have w10 : t10 = 0 := by omega
          exact ih_9 _ (by omega) best z10 rfl (show 0 ≤ z10 from by first | trivial | omega | (refine ⟨by assumption, ?_⟩; omega) | (refine ⟨?_, ?_⟩ <;> omega))
        · refine hX 400 36 _ _ ?_
          refine And.intro (Nat.le_of_ble_eq_true rfl) ?_
          refine hX 400 38 _ _ ?_
          intro z11 t11 e11 l11 h11
          try have w11 : t11 = 0 := by omega
          exact ih_9 _ (by omega) k z11 rfl (show 0 ≤ z11 from by first | trivial | omega | (refine ⟨by assumption, ?_⟩; omega) | (refine ⟨?_, ?_⟩ <;> omega))
  exact lp_9 _ (-1) 0 rfl (show 0 ≤ 0 from by first | trivial | omega | (refine ⟨by assumption, ?_⟩; omega) | (refine ⟨?_, ?_⟩ <;> omega))
set_option maxHeartbeats 4000000 in
set_option maxRecDepth 100000 in
theorem s_now {σ : xS} {what : Int} {Q : Option xV → xS → Prop} (hI : RI σ) (hQ : ∀ r : Int, ∀ σ' : xS, RK σ σ' → Q (some (xvi r)) σ') : xT kX11_now [xvr 0, xvi what] σ Q := by
  refine ⟨Nat.le_of_ble_eq_true rfl, fun X hX => ?_⟩
  show X 0 [xvr 0, xvi what, xvu, xvu] σ
  have hI : RK σ σ := RK.rf hI
  have hb0 := hI.1.kinds; have hb1 := hI.1.persons
  refine hX 400 0 _ _ ?_
  have hI := hI.p0 (j := 0) (v := 0) (by decide) (by decide) (by decide)
  refine And.intro (rfl) (And.intro (⟨by omega, by omega⟩) ?_)
  intro v2 e2 l2 h2
  have e2 : v2 = σ 2 7 := e2
  have rv2 : 0 ≤ (σ 2 7) ∧ (σ 2 7) ≤ 52 := hI.1.heaped
  refine And.intro (Nat.le_of_ble_eq_true rfl) ?_
  refine And.intro (Nat.le_of_ble_eq_true rfl) ?_
  have lp_15 : ∀ (m15 : Nat) (sum : Int) (k : Int), ((6 - k).toNat) = m15 → (0 ≤ k) → X 15 [xvr 0, xvi what, xvi sum, xvi k] (xput σ 0 0 0) := by
    intro m15
    induction m15 using Nat.strongRecOn with
    | _ m15 ih_15 =>
    intro sum k hm_15 hv_15
    refine hX 400 15 _ _ ?_
    refine And.intro (rfl) (And.intro (⟨by omega, by omega⟩) ?_)
    intro v4 e4 l4 h4
    have e4 : v4 = σ 2 1 := e4
    have rv4 : 0 ≤ (σ 2 1) ∧ (σ 2 1) ≤ 6 := hI.1.persons
    refine And.intro (fun c5 => ?_) (fun c5 => ?_)
    · refine And.intro (fun c6 => ?_) (And.intro rfl ?_)
      · refine And.intro rfl ?_
        exact hQ _ _ hI 
      refine And.intro (fun c6 => ?_) ?_
      · refine And.intro (rfl) (And.intro (⟨by omega, by omega⟩) ?_)
        intro v7 e7 l7 h7
        have e7 : v7 = σ 2 4 := e7
        have rv7 : -1 ≤ (σ 2 4) ∧ (σ 2 4) < (σ 2 1) := hI.1.turn
        refine And.intro rfl ?_
        exact hQ _ _ hI 
      refine And.intro (fun c6 => ?_) ?_
      · refine And.intro (rfl) (And.intro (⟨by omega, by omega⟩) ?_)
        intro v8 e8 l8 h8
        have e8 : v8 = σ 2 7 := e8
        have rv8 : 0 ≤ (σ 2 7) ∧ (σ 2 7) ≤ 52 := hI.1.heaped
        refine And.intro rfl ?_
        exact hQ _ _ hI 
      refine And.intro (fun c6 => ?_) ?_
      · refine And.intro (rfl) (And.intro (⟨by omega, by omega⟩) ?_)
        intro v9 e9 l9 h9
        have e9 : v9 = σ 2 5 := e9
        refine And.intro rfl ?_
        exact hQ _ _ hI 
      refine And.intro (fun c6 => ?_) ?_
      · refine s_allBooks (σ := (xput σ 0 0 0))   (fun r10 => ?_)
        refine And.intro rfl ?_
        exact hQ _ _ hI 
      refine And.intro (fun c6 => ?_) ?_
      · refine And.intro (rfl) (And.intro (⟨by omega, by omega⟩) ?_)
        intro v11 e11 l11 h11
        have e11 : v11 = σ 2 6 := e11
        have rv11 : 0 ≤ (σ 2 6) ∧ (σ 2 6) ≤ (σ 2 1) ∧ (¬ (σ 2 4) = -1 → (σ 2 6) < (σ 2 1)) := hI.1.vain
        refine And.intro rfl ?_
        exact hQ _ _ hI 
      refine And.intro (fun c6 => ?_) ?_
      · refine And.intro rfl ?_
        exact hQ _ _ hI 
      exact trivial
    · refine s_cards0 (σ := (xput σ 0 0 0)) (k := k) (show 0 ≤ k ∧ k ≤ 5 from by omega) (fun r12 => ?_)
      intro z13 t13 e13 l13 h13
      try have w13 : t13 = 0 := by omega
      refine And.intro (Nat.le_of_ble_eq_true rfl) ?_
      intro z14 t14 e14 l14 h14
      try have w14 : t14 = 0 := by omega
      exact ih_15 _ (by omega) z13 z14 rfl (show 0 ≤ z14 from by first | trivial | omega | (refine ⟨by assumption, ?_⟩; omega) | (refine ⟨?_, ?_⟩ <;> omega))
  exact lp_15 _ v2 0 rfl (show 0 ≤ 0 from by first | trivial | omega | (refine ⟨by assumption, ?_⟩; omega) | (refine ⟨?_, ?_⟩ <;> omega))
set_option maxHeartbeats 4000000 in
set_option maxRecDepth 100000 in
theorem s_person {σ : xS} {k what : Int} {Q : Option xV → xS → Prop} (hI : RI σ) (hQ : ∀ r : Int, ∀ σ' : xS, RK σ σ' → Q (some (xvi r)) σ') : xT kX11_person [xvr 0, xvi k, xvi what] σ Q := by
  refine ⟨Nat.le_of_ble_eq_true rfl, fun X hX => ?_⟩
  show X 0 [xvr 0, xvi k, xvi what, xvu, xvu] σ
  have hI : RK σ σ := RK.rf hI
  have hb0 := hI.1.kinds; have hb1 := hI.1.persons
  refine hX 400 0 _ _ ?_
  have hI := hI.p0 (j := 0) (v := 0) (by decide) (by decide) (by decide)
  refine s_isPerson (σ := (xput σ 0 0 0)) (k := k) hI.1  (fun r2 p2 => ?_)
  have p2 : (r2 = 1 ∧ 0 ≤ k ∧ k < (σ 2 1)) ∨ (r2 = 0 ∧ (k < 0 ∨ (σ 2 1) ≤ k)) := p2
  refine And.intro (fun c3 => ?_) (fun c3 => ?_)
  · refine And.intro (Nat.le_of_ble_eq_true rfl) ?_
    refine And.intro (Nat.le_of_ble_eq_true rfl) ?_
    have lp_20 : ∀ (m20 : Nat) (set : Int) (kind : Int), ((13 - kind).toNat) = m20 → (0 ≤ kind ∧ kind ≤ 13) → X 20 [xvr 0, xvi k, xvi what, xvi set, xvi kind] (xput σ 0 0 0) := by
      intro m20
      induction m20 using Nat.strongRecOn with
      | _ m20 ih_20 =>
      intro set kind hm_20 hv_20
      refine hX 400 20 _ _ ?_
      refine And.intro (fun c5 => ?_) (fun c5 => ?_)
      · refine And.intro (fun c6 => ?_) (And.intro rfl ?_)
        · refine And.intro rfl ?_
          exact hQ _ _ hI 
        refine And.intro (fun c6 => ?_) ?_
        · refine s_cards0 (σ := (xput σ 0 0 0)) (k := k) (show 0 ≤ k ∧ k ≤ 5 from by omega) (fun r7 => ?_)
          refine And.intro rfl ?_
          exact hQ _ _ hI 
        refine And.intro (fun c6 => ?_) ?_
        · refine s_booksOf (σ := (xput σ 0 0 0)) (k := k)  (fun r8 => ?_)
          refine And.intro rfl ?_
          exact hQ _ _ hI 
        refine And.intro (fun c6 => ?_) ?_
        · refine And.intro rfl ?_
          exact hQ _ _ hI 
        refine And.intro (fun c6 => ?_) ?_
        · intro z9 t9 e9 l9 h9
          try have w9 : t9 = 0 := by omega
          refine And.intro (rfl) (And.intro (⟨by omega, by omega⟩) ?_)
          intro v10 e10 l10 h10
          have e10 : v10 = σ 2 z9.toNat := e10
          have rv10 : 0 ≤ σ 2 z9.toNat ∧ σ 2 z9.toNat ≤ 52 := hI.1.othI (z := z9) (by omega) (by omega)
          refine And.intro rfl ?_
          exact hQ _ _ hI 
        refine And.intro (fun c6 => ?_) ?_
        · intro z11 t11 e11 l11 h11
          try have w11 : t11 = 0 := by omega
          refine And.intro (rfl) (And.intro (⟨by omega, by omega⟩) ?_)
          intro v12 e12 l12 h12
          have e12 : v12 = σ 2 z11.toNat := e12
          refine And.intro rfl ?_
          exact hQ _ _ hI 
        refine And.intro (fun c6 => ?_) ?_
        · intro z13 t13 e13 l13 h13
          try have w13 : t13 = 0 := by omega
          refine And.intro (rfl) (And.intro (⟨by omega, by omega⟩) ?_)
          intro v14 e14 l14 h14
          have e14 : v14 = σ 2 z13.toNat := e14
          refine And.intro rfl ?_
          exact hQ _ _ hI 
        refine And.intro (fun c6 => ?_) ?_
        · intro z15 t15 e15 l15 h15
          try have w15 : t15 = 0 := by omega
          refine And.intro (rfl) (And.intro (⟨by omega, by omega⟩) ?_)
          intro v16 e16 l16 h16
          have e16 : v16 = σ 2 z15.toNat := e16
          refine And.intro rfl ?_
          exact hQ _ _ hI 
        refine And.intro (fun c6 => ?_) ?_
        · intro z17 t17 e17 l17 h17
          try have w17 : t17 = 0 := by omega
          refine And.intro (rfl) (And.intro (⟨by omega, by omega⟩) ?_)
          intro v18 e18 l18 h18
          have e18 : v18 = σ 2 z17.toNat := e18
          have rv18 : 0 ≤ σ 2 z17.toNat ∧ σ 2 z17.toNat ≤ 13 := hI.1.drewI (z := z17) (by omega) (by omega)
          intro z19 t19 e19 l19 h19
          try have w19 : t19 = 0 := by omega
          refine And.intro rfl ?_
          exact hQ _ _ hI 
        exact trivial
      · refine s_hand0 (σ := (xput σ 0 0 0)) (k := k) (kind := kind) hI.1 (show 0 ≤ k ∧ k ≤ 5 from by omega) (show 0 ≤ kind ∧ kind ≤ 12 from by omega) (fun r20 p20 => ?_)
        have p20 : r20 = σ 2 (60 + 13 * k + kind).toNat ∧ 0 ≤ r20 ∧ r20 ≤ 4 := p20
        refine And.intro (fun c21 => ?_) (fun c21 => ?_)
        · intro z22 e22 l22 h22
          refine And.intro (Nat.le_of_ble_eq_true rfl) ?_
          intro z23 t23 e23 l23 h23
          try have w23 : t23 = 0 := by omega
          exact ih_20 _ (by omega) z22 z23 rfl (show 0 ≤ z23 ∧ z23 ≤ 13 from by first | trivial | omega | (refine ⟨by assumption, ?_⟩; omega) | (refine ⟨?_, ?_⟩ <;> omega))
        · intro z24 e24 l24 h24
          intro z25 e25 l25 h25
          refine And.intro (Nat.le_of_ble_eq_true rfl) ?_
          intro z26 t26 e26 l26 h26
          try have w26 : t26 = 0 := by omega
          exact ih_20 _ (by omega) z25 z26 rfl (show 0 ≤ z26 ∧ z26 ≤ 13 from by first | trivial | omega | (refine ⟨by assumption, ?_⟩; omega) | (refine ⟨?_, ?_⟩ <;> omega))
    exact lp_20 _ 0 0 rfl (show 0 ≤ 0 ∧ 0 ≤ 13 from by first | trivial | omega | (refine ⟨by assumption, ?_⟩; omega) | (refine ⟨?_, ?_⟩ <;> omega))
  · refine And.intro rfl ?_
    exact hQ _ _ hI 
set_option maxHeartbeats 4000000 in
set_option maxRecDepth 100000 in
theorem s_sureOf {σ : xS} {b kind : Int} {Q : Option xV → xS → Prop} (hI : RI σ) (hp0 : 0 ≤ b ∧ b ≤ 5) (hp1 : 0 ≤ kind ∧ kind ≤ 12) (hQ : ∀ r : Int, (0 ≤ r ∧ r ≤ 2) → Q (some (xvi r)) σ) : xT kX11_sureOf [xvr 0, xvi b, xvi kind] σ Q := by
  refine ⟨Nat.le_of_ble_eq_true rfl, fun X hX => ?_⟩
  show X 0 [xvr 0, xvi b, xvi kind, xvu] σ
  have hI : RK σ σ := RK.rf hI
  have hb0 := hI.1.kinds; have hb1 := hI.1.persons
  refine hX 400 0 _ _ ?_
  intro z1 t1 e1 l1 h1
  try have w1 : t1 = 0 := by omega
  intro z2 t2 e2 l2 h2
  try have w2 : t2 = 0 := by omega
  intro z3 t3 e3 l3 h3
  try have w3 : t3 = 0 := by omega
  refine And.intro (rfl) (And.intro (⟨by omega, by omega⟩) ?_)
  intro v4 e4 l4 h4
  have e4 : v4 = σ 2 z3.toNat := e4
  have rv4 : 0 ≤ σ 2 z3.toNat ∧ σ 2 z3.toNat ≤ 4 := hI.1.knI (z := z3) (by omega) (by omega)
  refine And.intro (fun c5 => ?_) (fun c5 => ?_)
  · refine And.intro (Nat.le_of_ble_eq_true rfl) ?_
    have lp_22 : ∀ (m22 : Nat) (i : Int), ((52 - i).toNat) = m22 → (0 ≤ i ∧ i ≤ 52) → X 22 [xvr 0, xvi b, xvi kind, xvi i] σ := by
      intro m22
      induction m22 using Nat.strongRecOn with
      | _ m22 ih_22 =>
      intro i hm_22 hv_22
      refine hX 400 22 _ _ ?_
      intro z7 t7 e7 l7 h7
      try have w7 : t7 = 0 := by omega
      refine And.intro (rfl) (And.intro (⟨by omega, by omega⟩) ?_)
      intro v8 e8 l8 h8
      have e8 : v8 = σ 2 z7.toNat := e8
      have rv8 : 0 ≤ σ 2 z7.toNat ∧ σ 2 z7.toNat ≤ 52 := hI.1.othI (z := z7) (by omega) (by omega)
      refine And.intro (fun c9 => ?_) (fun c9 => ?_)
      · refine And.intro rfl ?_
        exact hQ _ (show 0 ≤ 0 ∧ 0 ≤ 2 from by first | trivial | omega)
      · intro z10 t10 e10 l10 h10
        try have w10 : t10 = 0 := by omega
        intro z11 t11 e11 l11 h11
        try have w11 : t11 = 0 := by omega
        intro z12 t12 e12 l12 h12
        try have w12 : t12 = 0 := by omega
        refine And.intro (rfl) (And.intro (⟨by omega, by omega⟩) ?_)
        intro v13 e13 l13 h13
        have e13 : v13 = σ 2 z12.toNat := e13
        refine s_bitOf (σ := σ) (set := v13) (k := kind)  (fun r14 p14 => ?_)
        have p14 : r14 = 0 ∨ r14 = 1 := p14
        refine And.intro (fun c15 => ?_) (fun c15 => ?_)
        · intro z16 t16 e16 l16 h16
          try have w16 : t16 = 0 := by omega
          exact ih_22 _ (by omega) z16 rfl (show 0 ≤ z16 ∧ z16 ≤ 52 from by first | trivial | omega | (refine ⟨by assumption, ?_⟩; omega) | (refine ⟨?_, ?_⟩ <;> omega))
        · refine And.intro rfl ?_
          exact hQ _ (show 0 ≤ 1 ∧ 1 ≤ 2 from by first | trivial | omega)
    exact lp_22 _ 0 rfl (show 0 ≤ 0 ∧ 0 ≤ 52 from by first | trivial | omega | (refine ⟨by assumption, ?_⟩; omega) | (refine ⟨?_, ?_⟩ <;> omega))
  · refine And.intro rfl ?_
    exact hQ _ (show 0 ≤ 2 ∧ 2 ≤ 2 from by first | trivial | omega)
set_option maxHeartbeats 4000000 in
set_option maxRecDepth 100000 in
theorem s_nextWithCards {σ : xS} {a : Int} {Q : Option xV → xS → Prop} (hI : RI σ) (hp0 : 0 ≤ a ∧ a ≤ 5 ∧ 2 ≤ σ 2 1) (hQ : ∀ r : Int, (0 ≤ r ∧ r < σ 2 1) → Q (some (xvi r)) σ) : xT kX11_nextWithCards [xvr 0, xvi a] σ Q := by
  refine ⟨Nat.le_of_ble_eq_true rfl, fun X hX => ?_⟩
  show X 0 [xvr 0, xvi a, xvu] σ
  have hI : RK σ σ := RK.rf hI
  have hb0 := hI.1.kinds; have hb1 := hI.1.persons
  refine hX 400 0 _ _ ?_
  refine And.intro (Nat.le_of_ble_eq_true rfl) ?_
  have lp_2 : ∀ (m2 : Nat) (i : Int), ((6 - i).toNat) = m2 → (1 ≤ i ∧ i ≤ 6) → X 2 [xvr 0, xvi a, xvi i] σ := by
    intro m2
    induction m2 using Nat.strongRecOn with
    | _ m2 ih_2 =>
    intro i hm_2 hv_2
    refine hX 400 2 _ _ ?_
    refine And.intro (rfl) (And.intro (⟨by omega, by omega⟩) ?_)
    intro v2 e2 l2 h2
    have e2 : v2 = σ 2 1 := e2
    have rv2 : 0 ≤ (σ 2 1) ∧ (σ 2 1) ≤ 6 := hI.1.persons
    refine And.intro (fun c3 => ?_) (fun c3 => ?_)
    · intro z4 t4 e4 l4 h4
      try have w4 : t4 = 0 := by omega
      refine And.intro (rfl) (And.intro (⟨by omega, by omega⟩) ?_)
      intro v5 e5 l5 h5
      have e5 : v5 = σ 2 1 := e5
      have rv5 : 0 ≤ (σ 2 1) ∧ (σ 2 1) ≤ 6 := hI.1.persons
      refine And.intro (by omega) ?_
      intro z6 e6 f6 l6 h6
      have f6 := f6 (by omega) (by omega)
      have g6 := Int.emod_nonneg z4 (b := v5) (by omega); have k6 := Int.emod_lt_of_pos z4 (b := v5) (by omega); rw [← f6] at g6 k6
      refine And.intro rfl ?_
      exact hQ _ (show 0 ≤ z6 ∧ z6 < σ 2 1 from by first | trivial | omega)
    · intro z7 t7 e7 l7 h7
      try have w7 : t7 = 0 := by omega
      refine And.intro (rfl) (And.intro (⟨by omega, by omega⟩) ?_)
      intro v8 e8 l8 h8
      have e8 : v8 = σ 2 1 := e8
      have rv8 : 0 ≤ (σ 2 1) ∧ (σ 2 1) ≤ 6 := hI.1.persons
      refine And.intro (by omega) ?_
      intro z9 e9 f9 l9 h9
      have f9 := f9 (by omega) (by omega)
      have g9 := Int.emod_nonneg z7 (b := v8) (by omega); have k9 := Int.emod_lt_of_pos z7 (b := v8) (by omega); rw [← f9] at g9 k9
      refine s_cards0 (σ := σ) (k := z9) (show 0 ≤ z9 ∧ z9 ≤ 5 from by omega) (fun r10 => ?_)
      refine And.intro (fun c11 => ?_) (fun c11 => ?_)
      · intro z12 t12 e12 l12 h12
        try have w12 : t12 = 0 := by omega
        exact ih_2 _ (by omega) z12 rfl (show 1 ≤ z12 ∧ z12 ≤ 6 from by first | trivial | omega | (refine ⟨by assumption, ?_⟩; omega) | (refine ⟨?_, ?_⟩ <;> omega))
      · intro z13 t13 e13 l13 h13
        try have w13 : t13 = 0 := by omega
        refine And.intro (rfl) (And.intro (⟨by omega, by omega⟩) ?_)
        intro v14 e14 l14 h14
        have e14 : v14 = σ 2 1 := e14
        have rv14 : 0 ≤ (σ 2 1) ∧ (σ 2 1) ≤ 6 := hI.1.persons
        refine And.intro (by omega) ?_
        intro z15 e15 f15 l15 h15
        have f15 := f15 (by omega) (by omega)
        have g15 := Int.emod_nonneg z13 (b := v14) (by omega); have k15 := Int.emod_lt_of_pos z13 (b := v14) (by omega); rw [← f15] at g15 k15
        refine And.intro rfl ?_
        exact hQ _ (show 0 ≤ z15 ∧ z15 < σ 2 1 from by first | trivial | omega)
  exact lp_2 _ 1 rfl (show 1 ≤ 1 ∧ 1 ≤ 6 from by first | trivial | omega | (refine ⟨by assumption, ?_⟩; omega) | (refine ⟨?_, ?_⟩ <;> omega))
set_option maxHeartbeats 4000000 in
set_option maxRecDepth 100000 in
theorem s_octet {σ : xS} {k : Int} {Q : Option xV → xS → Prop} (hp0 : 0 ≤ k ∧ k < 940) (hQ : ∀ r : Int, (0 ≤ r ∧ r ≤ 255) → Q (some (xvi r)) σ) : xT kX11_octet [xvr 0, xvi k] σ Q := by
  refine ⟨Nat.le_of_ble_eq_true rfl, fun X hX => ?_⟩
  show X 0 [xvr 0, xvi k] σ
  refine hX 400 0 _ _ ?_
  refine And.intro (Or.inl rfl) (And.intro (⟨by omega, by omega⟩) ?_)
  intro v1 e1 l1 h1
  have e1 : v1 = σ 1 k.toNat := e1
  intro z2 e2 l2 h2
  have q2 := x255b v1; rw [← e2] at q2
  refine And.intro rfl ?_
  exact hQ _ (show 0 ≤ z2 ∧ z2 ≤ 255 from by first | trivial | omega)
set_option maxHeartbeats 4000000 in
set_option maxRecDepth 100000 in
theorem s_peek {σ : xS} {Q : Option xV → xS → Prop} (hp0 : 0 ≤ σ 0 4 ∧ σ 0 3 ≤ 940) (hQ : ∀ r : Int, (r = pkf σ ∧ ((σ 0 4 < σ 0 3 ∧ 0 ≤ r ∧ r ≤ 255) ∨ (σ 0 3 ≤ σ 0 4 ∧ r = -1))) → Q (some (xvi r)) σ) : xT kX11_peek [xvr 0] σ Q := by
  refine ⟨Nat.le_of_ble_eq_true rfl, fun X hX => ?_⟩
  show X 0 [xvr 0] σ
  refine hX 400 0 _ _ ?_
  intro v1 e1 l1 h1
  have e1 : v1 = σ 0 4 := e1
  intro v2 e2 l2 h2
  have e2 : v2 = σ 0 3 := e2
  refine And.intro (fun c3 => ?_) (fun c3 => ?_)
  · refine And.intro rfl ?_
    exact hQ _ ⟨by unfold pkf; rw [if_neg (by omega)], by omega⟩
  · intro v4 e4 l4 h4
    have e4 : v4 = σ 0 4 := e4
    refine And.intro (Or.inl rfl) (And.intro (⟨by omega, by omega⟩) ?_)
    intro v5 e5 l5 h5
    have e5 : v5 = σ 1 v4.toNat := e5
    intro z6 e6 l6 h6
    have q6 := x255b v5; rw [← e6] at q6
    refine And.intro rfl ?_
    exact hQ _ ⟨by unfold pkf; rw [if_pos (by omega)]; subst_vars; rfl, by omega⟩
set_option maxHeartbeats 4000000 in
set_option maxRecDepth 100000 in
theorem s_isName {σ : xS} {Q : Option xV → xS → Prop} (hQ : ∀ r : Int, ((r = 1 ∧ σ 0 11 = 1) ∨ r = 0) → Q (some (xvi r)) σ) : xT kX11_isName [xvr 0] σ Q := by
  refine ⟨Nat.le_of_ble_eq_true rfl, fun X hX => ?_⟩
  show X 0 [xvr 0, xvu, xvu] σ
  refine hX 400 0 _ _ ?_
  intro v1 e1 l1 h1
  have e1 : v1 = σ 0 11 := e1
  refine And.intro (fun c2 => ?_) (fun c2 => ?_)
  · refine And.intro (Nat.le_of_ble_eq_true rfl) ?_
    refine And.intro (Nat.le_of_ble_eq_true rfl) ?_
    have lp_16 : ∀ (m16 : Nat) (is : Int) (k : Int), ((19 - k).toNat) = m16 → ((0 ≤ k ∧ k ≤ 19) ∧ ((is = 1 ∧ σ 0 11 = 1) ∨ is = 0)) → X 16 [xvr 0, xvi is, xvi k] σ := by
      intro m16
      induction m16 using Nat.strongRecOn with
      | _ m16 ih_16 =>
      intro is k hm_16 hv_16
      refine hX 400 16 _ _ ?_
      refine And.intro (fun c4 => ?_) (fun c4 => ?_)
      · refine And.intro rfl ?_
        refine And.intro (by omega) ?_
        exact hQ _ (show (is = 1 ∧ σ 0 11 = 1) ∨ is = 0 from by first | trivial | omega)
      · refine And.intro (fun c5 => ?_) (fun c5 => ?_)
        · refine hX 400 44 _ _ ?_
          refine And.intro (Nat.le_of_ble_eq_true rfl) ?_
          intro z6 t6 e6 l6 h6
          try have w6 : t6 = 0 := by omega
          exact ih_16 _ (by omega) 0 z6 rfl (show (0 ≤ z6 ∧ z6 ≤ 19) ∧ ((0 = 1 ∧ σ 0 11 = 1) ∨ 0 = 0) from by first | trivial | omega | (refine ⟨by assumption, ?_⟩; omega) | (refine ⟨?_, ?_⟩ <;> omega))
        · intro v7 e7 l7 h7
          have e7 : v7 = σ 0 17 := e7
          refine And.intro (rfl) (And.intro (⟨by omega, by omega⟩) ?_)
          intro v8 e8 l8 h8
          have e8 : v8 = σ 6 k.toNat := e8
          intro z9 a9 b9 c9 l9 h9
          refine And.intro (fun c10 => ?_) (fun c10 => ?_)
          · refine hX 400 44 _ _ ?_
            refine And.intro (Nat.le_of_ble_eq_true rfl) ?_
            intro z11 t11 e11 l11 h11
            try have w11 : t11 = 0 := by omega
            exact ih_16 _ (by omega) 0 z11 rfl (show (0 ≤ z11 ∧ z11 ≤ 19) ∧ ((0 = 1 ∧ σ 0 11 = 1) ∨ 0 = 0) from by first | trivial | omega | (refine ⟨by assumption, ?_⟩; omega) | (refine ⟨?_, ?_⟩ <;> omega))
          · refine And.intro (Nat.le_of_ble_eq_true rfl) ?_
            intro z12 t12 e12 l12 h12
            try have w12 : t12 = 0 := by omega
            exact ih_16 _ (by omega) 1 z12 rfl (show (0 ≤ z12 ∧ z12 ≤ 19) ∧ ((1 = 1 ∧ σ 0 11 = 1) ∨ 1 = 0) from by first | trivial | omega | (refine ⟨by assumption, ?_⟩; omega) | (refine ⟨?_, ?_⟩ <;> omega))
    exact lp_16 _ 0 0 rfl (show (0 ≤ 0 ∧ 0 ≤ 19) ∧ ((0 = 1 ∧ σ 0 11 = 1) ∨ 0 = 0) from by first | trivial | omega | (refine ⟨by assumption, ?_⟩; omega) | (refine ⟨?_, ?_⟩ <;> omega))
  · refine And.intro (Nat.le_of_ble_eq_true rfl) ?_
    refine And.intro (Nat.le_of_ble_eq_true rfl) ?_
    have lp_16 : ∀ (m16 : Nat) (is : Int) (k : Int), ((19 - k).toNat) = m16 → ((0 ≤ k ∧ k ≤ 19) ∧ ((is = 1 ∧ σ 0 11 = 1) ∨ is = 0)) → X 16 [xvr 0, xvi is, xvi k] σ := by
      intro m16
      induction m16 using Nat.strongRecOn with
      | _ m16 ih_16 =>
      intro is k hm_16 hv_16
      refine hX 400 16 _ _ ?_
      refine And.intro (fun c14 => ?_) (fun c14 => ?_)
      · refine And.intro rfl ?_
        refine And.intro (by omega) ?_
        exact hQ _ (show (is = 1 ∧ σ 0 11 = 1) ∨ is = 0 from by first | trivial | omega)
      · refine And.intro (fun c15 => ?_) (fun c15 => ?_)
        · refine hX 400 44 _ _ ?_
          refine And.intro (Nat.le_of_ble_eq_true rfl) ?_
          intro z16 t16 e16 l16 h16
          try have w16 : t16 = 0 := by omega
          exact ih_16 _ (by omega) 0 z16 rfl (show (0 ≤ z16 ∧ z16 ≤ 19) ∧ ((0 = 1 ∧ σ 0 11 = 1) ∨ 0 = 0) from by first | trivial | omega | (refine ⟨by assumption, ?_⟩; omega) | (refine ⟨?_, ?_⟩ <;> omega))
        · intro v17 e17 l17 h17
          have e17 : v17 = σ 0 17 := e17
          refine And.intro (rfl) (And.intro (⟨by omega, by omega⟩) ?_)
          intro v18 e18 l18 h18
          have e18 : v18 = σ 6 k.toNat := e18
          intro z19 a19 b19 c19 l19 h19
          refine And.intro (fun c20 => ?_) (fun c20 => ?_)
          · refine hX 400 44 _ _ ?_
            refine And.intro (Nat.le_of_ble_eq_true rfl) ?_
            intro z21 t21 e21 l21 h21
            try have w21 : t21 = 0 := by omega
            exact ih_16 _ (by omega) 0 z21 rfl (show (0 ≤ z21 ∧ z21 ≤ 19) ∧ ((0 = 1 ∧ σ 0 11 = 1) ∨ 0 = 0) from by first | trivial | omega | (refine ⟨by assumption, ?_⟩; omega) | (refine ⟨?_, ?_⟩ <;> omega))
          · refine And.intro (Nat.le_of_ble_eq_true rfl) ?_
            intro z22 t22 e22 l22 h22
            try have w22 : t22 = 0 := by omega
            exact ih_16 _ (by omega) 1 z22 rfl (show (0 ≤ z22 ∧ z22 ≤ 19) ∧ ((1 = 1 ∧ σ 0 11 = 1) ∨ 1 = 0) from by first | trivial | omega | (refine ⟨by assumption, ?_⟩; omega) | (refine ⟨?_, ?_⟩ <;> omega))
    exact lp_16 _ 1 0 rfl (show (0 ≤ 0 ∧ 0 ≤ 19) ∧ ((1 = 1 ∧ σ 0 11 = 1) ∨ 1 = 0) from by first | trivial | omega | (refine ⟨by assumption, ?_⟩; omega) | (refine ⟨?_, ?_⟩ <;> omega))
set_option maxHeartbeats 4000000 in
set_option maxRecDepth 100000 in
theorem s_find {σ : xS} {from_ many : Int} {Q : Option xV → xS → Prop} (hp0 : (from_ = 0 ∨ from_ = 6) ∧ many ≤ 6) (hQ : ∀ r : Int, (-1 ≤ r ∧ (r = -1 ∨ r < many)) → Q (some (xvi r)) σ) : xT kX11_find [xvr 0, xvi from_, xvi many] σ Q := by
  refine ⟨Nat.le_of_ble_eq_true rfl, fun X hX => ?_⟩
  show X 0 [xvr 0, xvi from_, xvi many, xvu] σ
  refine hX 400 0 _ _ ?_
  refine And.intro (Nat.le_of_ble_eq_true rfl) ?_
  have lp_2 : ∀ (m2 : Nat) (k : Int), ((6 - k).toNat) = m2 → (0 ≤ k) → X 2 [xvr 0, xvi from_, xvi many, xvi k] σ := by
    intro m2
    induction m2 using Nat.strongRecOn with
    | _ m2 ih_2 =>
    intro k hm_2 hv_2
    refine hX 400 2 _ _ ?_
    refine And.intro (fun c2 => ?_) (fun c2 => ?_)
    · refine And.intro rfl ?_
      exact hQ _ (show -1 ≤ (-1) ∧ ((-1) = -1 ∨ (-1) < many) from by first | trivial | omega)
    · intro z3 t3 e3 l3 h3
      try have w3 : t3 = 0 := by omega
      refine And.intro (rfl) (And.intro (⟨by omega, by omega⟩) ?_)
      intro v4 e4 l4 h4
      have e4 : v4 = σ 5 z3.toNat := e4
      intro v5 e5 l5 h5
      have e5 : v5 = σ 0 17 := e5
      intro z6 a6 b6 c6 l6 h6
      refine And.intro (fun c7 => ?_) (fun c7 => ?_)
      · intro z8 t8 e8 l8 h8
        try have w8 : t8 = 0 := by omega
        exact ih_2 _ (by omega) z8 rfl (show 0 ≤ z8 from by first | trivial | omega | (refine ⟨by assumption, ?_⟩; omega) | (refine ⟨?_, ?_⟩ <;> omega))
      · refine And.intro rfl ?_
        exact hQ _ (show -1 ≤ k ∧ (k = -1 ∨ k < many) from by first | trivial | omega)
  exact lp_2 _ 0 rfl (show 0 ≤ 0 from by first | trivial | omega | (refine ⟨by assumption, ?_⟩; omega) | (refine ⟨?_, ?_⟩ <;> omega))
set_option maxHeartbeats 4000000 in
set_option maxRecDepth 100000 in
theorem s_next {σ : xS} {Q : Option xV → xS → Prop} (hp0 : 0 ≤ σ 0 4 ∧ σ 0 4 ≤ σ 0 3 ∧ σ 0 3 ≤ 940) (hp1 : 0 ≤ σ 0 14) (hQ : ∀ σ' : xS, Fr [] [4, 11, 12, 13, 14, 17] σ σ' → (σ' 0 3 = σ 0 3 ∧ σ 0 4 ≤ σ' 0 4 ∧ σ' 0 4 ≤ σ' 0 3 ∧ (0 ≤ σ' 0 11 ∧ σ' 0 11 ≤ 4) ∧ (1 ≤ σ' 0 11 ∧ σ' 0 11 ≤ 3 → σ 0 4 < σ' 0 4) ∧ 0 ≤ σ' 0 14) → Q none σ') : xT kX11_next [xvr 0] σ Q := by
  refine ⟨Nat.le_of_ble_eq_true rfl, fun X hX => ?_⟩
  show X 0 [xvr 0, xvu, xvu, xvu] σ
  have hF : Fr [] [4, 11, 12, 13, 14, 17] σ σ := Fr.rf
  
  have lp_0 : ∀ (m0 : Nat) (s1 : xS), ((s1 0 3 - s1 0 4).toNat) = m0 → (Fr [] [4, 11, 12, 13, 14, 17] σ s1 ∧ (s1 0 3 = σ 0 3 ∧ σ 0 4 ≤ s1 0 4 ∧ s1 0 4 ≤ s1 0 3 ∧ 0 ≤ s1 0 14)) → X 0 [xvr 0, xvu, xvu, xvu] s1 := by
    intro m0
    induction m0 using Nat.strongRecOn with
    | _ m0 ih_0 =>
    intro s1 hm_0 hv_0
    obtain ⟨hF, hv_0⟩ := hv_0
    refine hX 400 0 _ _ ?_
    refine s_peek (σ := s1)  (show 0 ≤ (s1 0 4) ∧ (s1 0 3) ≤ 940 from by omega) (fun r2 p2 => ?_)
    have p2 : r2 = pkf s1 ∧ (((s1 0 4) < (s1 0 3) ∧ 0 ≤ r2 ∧ r2 ≤ 255) ∨ ((s1 0 3) ≤ (s1 0 4) ∧ r2 = -1)) := p2
    refine And.intro (fun c3 => ?_) (fun c3 => ?_)
    · refine hX 400 18 _ _ ?_
      intro v4 e4 l4 h4
      have e4 : v4 = s1 0 4 := e4
      intro z5 t5 e5 l5 h5
      try have w5 : t5 = 0 := by omega
      have hF := hF.p (j := 4) (v := z5) (by decide)
      exact ih_0 _ (by omega) (xput s1 0 4 z5) rfl (show Fr [] [4, 11, 12, 13, 14, 17] σ (xput s1 0 4 z5) ∧ ((s1 0 3) = σ 0 3 ∧ σ 0 4 ≤ (z5) ∧ (z5) ≤ (s1 0 3) ∧ 0 ≤ (s1 0 14)) from by first | trivial | omega | (refine ⟨by assumption, ?_⟩; omega) | (refine ⟨?_, ?_⟩ <;> omega))
    · refine s_peek (σ := s1)  (show 0 ≤ (s1 0 4) ∧ (s1 0 3) ≤ 940 from by omega) (fun r7 p7 => ?_)
      have p7 : r7 = pkf s1 ∧ (((s1 0 4) < (s1 0 3) ∧ 0 ≤ r7 ∧ r7 ≤ 255) ∨ ((s1 0 3) ≤ (s1 0 4) ∧ r7 = -1)) := p7
      refine And.intro (fun c8 => ?_) (fun c8 => ?_)
      · intro v9 e9 l9 h9
        have e9 : v9 = s1 0 4 := e9
        have hF := hF.p (j := 12) (v := v9) (by decide)
        have hF := hF.p (j := 13) (v := 0) (by decide)
        have lp_80 : ∀ (_ : Unit), (True) → X 80 [xvr 0, xvu, xvu, xvu] (xput (xput s1 0 12 v9) 0 13 0) := by
          intro _ hv_80
          refine hX 400 80 _ _ ?_
          refine s_peek (σ := (xput (xput s1 0 12 v9) 0 13 0))  (show 0 ≤ (s1 0 4) ∧ (s1 0 3) ≤ 940 from by omega) (fun r13 p13 => ?_)
          have p13 : r13 = pkf (xput (xput s1 0 12 v9) 0 13 0) ∧ (((s1 0 4) < (s1 0 3) ∧ 0 ≤ r13 ∧ r13 ≤ 255) ∨ ((s1 0 3) ≤ (s1 0 4) ∧ r13 = -1)) := p13
          refine And.intro (Nat.le_of_ble_eq_true rfl) ?_
          refine And.intro (fun c14 => ?_) (fun c14 => ?_)
          · have lp_164 : ∀ (_ : Unit), ((97 ≤ r13 ∧ r13 ≤ 122) ∨ (48 ≤ r13 ∧ r13 ≤ 57)) → X 164 [xvr 0, xvi r13, xvu, xvu] (xput (xput s1 0 12 v9) 0 13 0) := by
              intro _ hv_164
              refine hX 400 164 _ _ ?_
              refine s_isSmall (σ := (xput (xput s1 0 12 v9) 0 13 0)) (c := r13)  (fun r16 p16 => ?_)
              have p16 : (r16 = 1 ∧ 97 ≤ r13 ∧ r13 ≤ 122) ∨ (r16 = 0 ∧ (r13 < 97 ∨ 122 < r13)) := p16
              refine And.intro (Nat.le_of_ble_eq_true rfl) ?_
              refine And.intro (Nat.le_of_ble_eq_true rfl) ?_
              have hF := hF.p (j := 17) (v := 0) (by decide)
              have hF := hF.p (j := 14) (v := 0) (by decide)
              have lp_181 : ∀ (m181 : Nat) (all : Int) (s2 : xS), ((s2 0 3 - s2 0 4).toNat) = m181 → (Fr [] [4, 11, 12, 13, 14, 17] σ s2 ∧ (s2 0 3 = σ 0 3 ∧ σ 0 4 ≤ s2 0 4 ∧ s2 0 4 ≤ s2 0 3 ∧ 0 ≤ s2 0 14 ∧ (s2 0 13 = 0 → s2 0 14 = 0) ∧ (s2 0 13 = 1 → s2 0 14 ≤ 300) ∧ (s2 0 13 = 2 → s2 0 14 ≤ 4000) ∧ (0 ≤ s2 0 13 ∧ s2 0 13 ≤ s2 0 4) ∧ (0 < s2 0 13 → σ 0 4 < s2 0 4)) ∧ (s2 0 13 = 0 → ((97 ≤ pkf s2 ∧ pkf s2 ≤ 122) ∨ (48 ≤ pkf s2 ∧ pkf s2 ≤ 57)))) → X 181 [xvr 0, xvi r13, xvi r16, xvi all] s2 := by
                intro m181
                induction m181 using Nat.strongRecOn with
                | _ m181 ih_181 =>
                intro all s2 hm_181 hv_181
                obtain ⟨hF, hv_181, hs_181⟩ := hv_181
                refine hX 400 181 _ _ ?_
                have lp_201 : ∀ (_ : Unit), (s2 0 4 < s2 0 3 ∧ 48 ≤ pkf s2 ∧ pkf s2 ≤ 122) → X 201 [xvr 0, xvi r13, xvi r16, xvi all] s2 := by
                  intro _ hv_201
                  refine hX 400 201 _ _ ?_
                  refine And.intro (fun c21 => ?_) (fun c21 => ?_)
                  · refine hX 400 220 _ _ ?_
                    refine And.intro (Nat.le_of_ble_eq_true rfl) ?_
                    have lp_248 : ∀ (s6 : xS), (Fr [] [4, 11, 12, 13, 14, 17] σ s6 ∧ (s6 0 3 = σ 0 3 ∧ σ 0 4 ≤ s6 0 4 ∧ s6 0 4 ≤ s6 0 3 ∧ 0 ≤ s6 0 14 ∧ (s6 0 13 = 0 → s6 0 14 = 0) ∧ (s6 0 13 = 1 → s6 0 14 ≤ 300) ∧ (s6 0 13 = 2 → s6 0 14 ≤ 4000) ∧ (0 ≤ s6 0 13 ∧ s6 0 13 ≤ s6 0 4) ∧ (0 < s6 0 13 → σ 0 4 < s6 0 4)) ∧ s6 0 4 < s6 0 3 ∧ pkf s6 = pkf s2) → X 248 [xvr 0, xvi r13, xvi r16, xvi 0] s6 := by
                      intro s6 hv_248
                      obtain ⟨hF, hv_248⟩ := hv_248
                      refine hX 400 248 _ _ ?_
                      have lp_275 : ∀ (s7 : xS), (Fr [] [4, 11, 12, 13, 14, 17] σ s7 ∧ (s7 0 3 = σ 0 3 ∧ σ 0 4 ≤ s7 0 4 ∧ s7 0 4 < s7 0 3 ∧ 0 ≤ s7 0 14 ∧ (s7 0 13 = 0 → s7 0 14 ≤ 300) ∧ (s7 0 13 = 1 → s7 0 14 ≤ 4000) ∧ (0 ≤ s7 0 13 ∧ s7 0 13 ≤ s7 0 4))) → X 275 [xvr 0, xvi r13, xvi r16, xvi 0] s7 := by
                        intro s7 hv_275
                        obtain ⟨hF, hv_275⟩ := hv_275
                        refine hX 400 275 _ _ ?_
                        intro v24 e24 l24 h24
                        have e24 : v24 = s7 0 13 := e24
                        intro z25 t25 e25 l25 h25
                        try have w25 : t25 = 0 := by omega
                        have hF := hF.p (j := 13) (v := z25) (by decide)
                        intro v27 e27 l27 h27
                        have e27 : v27 = s7 0 4 := e27
                        intro z28 t28 e28 l28 h28
                        try have w28 : t28 = 0 := by omega
                        have hF := hF.p (j := 4) (v := z28) (by decide)
                        exact ih_181 _ (by omega) 0 (xput (xput s7 0 13 z25) 0 4 z28) rfl (show Fr [] [4, 11, 12, 13, 14, 17] σ (xput (xput s7 0 13 z25) 0 4 z28) ∧ ((s7 0 3) = σ 0 3 ∧ σ 0 4 ≤ (z28) ∧ (z28) ≤ (s7 0 3) ∧ 0 ≤ (s7 0 14) ∧ ((z25) = 0 → (s7 0 14) = 0) ∧ ((z25) = 1 → (s7 0 14) ≤ 300) ∧ ((z25) = 2 → (s7 0 14) ≤ 4000) ∧ (0 ≤ (z25) ∧ (z25) ≤ (z28)) ∧ (0 < (z25) → σ 0 4 < (z28))) ∧ ((z25) = 0 → ((97 ≤ pkf (xput (xput s7 0 13 z25) 0 4 z28) ∧ pkf (xput (xput s7 0 13 z25) 0 4 z28) ≤ 122) ∨ (48 ≤ pkf (xput (xput s7 0 13 z25) 0 4 z28) ∧ pkf (xput (xput s7 0 13 z25) 0 4 z28) ≤ 57))) from by first | trivial | omega | (refine ⟨by assumption, ?_⟩; omega) | (refine ⟨?_, ?_⟩ <;> omega))
                      intro v30 e30 l30 h30
                      have e30 : v30 = s6 0 13 := e30
                      refine And.intro (fun c31 => ?_) (fun c31 => ?_)
                      · exact lp_275 s6 (show Fr [] [4, 11, 12, 13, 14, 17] σ s6 ∧ ((s6 0 3) = σ 0 3 ∧ σ 0 4 ≤ (s6 0 4) ∧ (s6 0 4) < (s6 0 3) ∧ 0 ≤ (s6 0 14) ∧ ((s6 0 13) = 0 → (s6 0 14) ≤ 300) ∧ ((s6 0 13) = 1 → (s6 0 14) ≤ 4000) ∧ (0 ≤ (s6 0 13) ∧ (s6 0 13) ≤ (s6 0 4))) from by first | trivial | omega | (refine ⟨by assumption, ?_⟩; omega) | (refine ⟨?_, ?_⟩ <;> omega))
                      · intro v32 e32 l32 h32
                        have e32 : v32 = s6 0 14 := e32
                        intro z33 t33 e33 l33 h33
                        try have w33 : t33 = 0 := by omega
                        refine s_peek (σ := s6)  (show 0 ≤ (s6 0 4) ∧ (s6 0 3) ≤ 940 from by omega) (fun r34 p34 => ?_)
                        have p34 : r34 = pkf s6 ∧ (((s6 0 4) < (s6 0 3) ∧ 0 ≤ r34 ∧ r34 ≤ 255) ∨ ((s6 0 3) ≤ (s6 0 4) ∧ r34 = -1)) := p34
                        intro z35 t35 e35 l35 h35
                        try have w35 : t35 = 0 := by omega
                        intro z36 t36 e36 l36 h36
                        try have w36 : t36 = 0 := by omega
                        have hF := hF.p (j := 14) (v := z36) (by decide)
                        exact lp_275 (xput s6 0 14 z36) (show Fr [] [4, 11, 12, 13, 14, 17] σ (xput s6 0 14 z36) ∧ ((s6 0 3) = σ 0 3 ∧ σ 0 4 ≤ (s6 0 4) ∧ (s6 0 4) < (s6 0 3) ∧ 0 ≤ (z36) ∧ ((s6 0 13) = 0 → (z36) ≤ 300) ∧ ((s6 0 13) = 1 → (z36) ≤ 4000) ∧ (0 ≤ (s6 0 13) ∧ (s6 0 13) ≤ (s6 0 4))) from by first | trivial | omega | (refine ⟨by assumption, ?_⟩; omega) | (refine ⟨?_, ?_⟩ <;> omega))
                    intro v38 e38 l38 h38
                    have e38 : v38 = s2 0 13 := e38
                    refine And.intro (fun c39 => ?_) (fun c39 => ?_)
                    · exact lp_248 s2 (show Fr [] [4, 11, 12, 13, 14, 17] σ s2 ∧ ((s2 0 3) = σ 0 3 ∧ σ 0 4 ≤ (s2 0 4) ∧ (s2 0 4) ≤ (s2 0 3) ∧ 0 ≤ (s2 0 14) ∧ ((s2 0 13) = 0 → (s2 0 14) = 0) ∧ ((s2 0 13) = 1 → (s2 0 14) ≤ 300) ∧ ((s2 0 13) = 2 → (s2 0 14) ≤ 4000) ∧ (0 ≤ (s2 0 13) ∧ (s2 0 13) ≤ (s2 0 4)) ∧ (0 < (s2 0 13) → σ 0 4 < (s2 0 4))) ∧ (s2 0 4) < (s2 0 3) ∧ pkf s2 = pkf s2 from by first | trivial | omega | (refine ⟨by assumption, ?_⟩; omega) | (refine ⟨?_, ?_⟩ <;> omega))
                    · intro v40 e40 l40 h40
                      have e40 : v40 = s2 0 17 := e40
                      intro z41 e41 l41 h41
                      refine s_peek (σ := s2)  (show 0 ≤ (s2 0 4) ∧ (s2 0 3) ≤ 940 from by omega) (fun r42 p42 => ?_)
                      have p42 : r42 = pkf s2 ∧ (((s2 0 4) < (s2 0 3) ∧ 0 ≤ r42 ∧ r42 ≤ 255) ∨ ((s2 0 3) ≤ (s2 0 4) ∧ r42 = -1)) := p42
                      intro z43 e43 l43 h43
                      have hF := hF.p (j := 17) (v := z43) (by decide)
                      exact lp_248 (xput s2 0 17 z43) (show Fr [] [4, 11, 12, 13, 14, 17] σ (xput s2 0 17 z43) ∧ ((s2 0 3) = σ 0 3 ∧ σ 0 4 ≤ (s2 0 4) ∧ (s2 0 4) ≤ (s2 0 3) ∧ 0 ≤ (s2 0 14) ∧ ((s2 0 13) = 0 → (s2 0 14) = 0) ∧ ((s2 0 13) = 1 → (s2 0 14) ≤ 300) ∧ ((s2 0 13) = 2 → (s2 0 14) ≤ 4000) ∧ (0 ≤ (s2 0 13) ∧ (s2 0 13) ≤ (s2 0 4)) ∧ (0 < (s2 0 13) → σ 0 4 < (s2 0 4))) ∧ (s2 0 4) < (s2 0 3) ∧ pkf (xput s2 0 17 z43) = pkf s2 from by first | trivial | omega | (refine ⟨by assumption, ?_⟩; omega) | (refine ⟨?_, ?_⟩ <;> omega))
                  · refine s_peek (σ := s2)  (show 0 ≤ (s2 0 4) ∧ (s2 0 3) ≤ 940 from by omega) (fun r45 p45 => ?_)
                    have p45 : r45 = pkf s2 ∧ (((s2 0 4) < (s2 0 3) ∧ 0 ≤ r45 ∧ r45 ≤ 255) ∨ ((s2 0 3) ≤ (s2 0 4) ∧ r45 = -1)) := p45
                    refine s_isSmall (σ := s2) (c := r45)  (fun r46 p46 => ?_)
                    have p46 : (r46 = 1 ∧ 97 ≤ r45 ∧ r45 ≤ 122) ∨ (r46 = 0 ∧ (r45 < 97 ∨ 122 < r45)) := p46
                    refine And.intro (fun c47 => ?_) (fun c47 => ?_)
                    · refine hX 400 220 _ _ ?_
                      refine And.intro (Nat.le_of_ble_eq_true rfl) ?_
                      have lp_248 : ∀ (s6 : xS), (Fr [] [4, 11, 12, 13, 14, 17] σ s6 ∧ (s6 0 3 = σ 0 3 ∧ σ 0 4 ≤ s6 0 4 ∧ s6 0 4 ≤ s6 0 3 ∧ 0 ≤ s6 0 14 ∧ (s6 0 13 = 0 → s6 0 14 = 0) ∧ (s6 0 13 = 1 → s6 0 14 ≤ 300) ∧ (s6 0 13 = 2 → s6 0 14 ≤ 4000) ∧ (0 ≤ s6 0 13 ∧ s6 0 13 ≤ s6 0 4) ∧ (0 < s6 0 13 → σ 0 4 < s6 0 4)) ∧ s6 0 4 < s6 0 3 ∧ pkf s6 = pkf s2) → X 248 [xvr 0, xvi r13, xvi r16, xvi 0] s6 := by
                        intro s6 hv_248
                        obtain ⟨hF, hv_248⟩ := hv_248
                        refine hX 400 248 _ _ ?_
                        have lp_275 : ∀ (s7 : xS), (Fr [] [4, 11, 12, 13, 14, 17] σ s7 ∧ (s7 0 3 = σ 0 3 ∧ σ 0 4 ≤ s7 0 4 ∧ s7 0 4 < s7 0 3 ∧ 0 ≤ s7 0 14 ∧ (s7 0 13 = 0 → s7 0 14 ≤ 300) ∧ (s7 0 13 = 1 → s7 0 14 ≤ 4000) ∧ (0 ≤ s7 0 13 ∧ s7 0 13 ≤ s7 0 4))) → X 275 [xvr 0, xvi r13, xvi r16, xvi 0] s7 := by
                          intro s7 hv_275
                          obtain ⟨hF, hv_275⟩ := hv_275
                          refine hX 400 275 _ _ ?_
                          intro v50 e50 l50 h50
                          have e50 : v50 = s7 0 13 := e50
                          intro z51 t51 e51 l51 h51
                          try have w51 : t51 = 0 := by omega
                          have hF := hF.p (j := 13) (v := z51) (by decide)
                          intro v53 e53 l53 h53
                          have e53 : v53 = s7 0 4 := e53
                          intro z54 t54 e54 l54 h54
                          try have w54 : t54 = 0 := by omega
                          have hF := hF.p (j := 4) (v := z54) (by decide)
                          exact ih_181 _ (by omega) 0 (xput (xput s7 0 13 z51) 0 4 z54) rfl (show Fr [] [4, 11, 12, 13, 14, 17] σ (xput (xput s7 0 13 z51) 0 4 z54) ∧ ((s7 0 3) = σ 0 3 ∧ σ 0 4 ≤ (z54) ∧ (z54) ≤ (s7 0 3) ∧ 0 ≤ (s7 0 14) ∧ ((z51) = 0 → (s7 0 14) = 0) ∧ ((z51) = 1 → (s7 0 14) ≤ 300) ∧ ((z51) = 2 → (s7 0 14) ≤ 4000) ∧ (0 ≤ (z51) ∧ (z51) ≤ (z54)) ∧ (0 < (z51) → σ 0 4 < (z54))) ∧ ((z51) = 0 → ((97 ≤ pkf (xput (xput s7 0 13 z51) 0 4 z54) ∧ pkf (xput (xput s7 0 13 z51) 0 4 z54) ≤ 122) ∨ (48 ≤ pkf (xput (xput s7 0 13 z51) 0 4 z54) ∧ pkf (xput (xput s7 0 13 z51) 0 4 z54) ≤ 57))) from by first | trivial | omega | (refine ⟨by assumption, ?_⟩; omega) | (refine ⟨?_, ?_⟩ <;> omega))
                        intro v56 e56 l56 h56
                        have e56 : v56 = s6 0 13 := e56
                        refine And.intro (fun c57 => ?_) (fun c57 => ?_)
                        · exact lp_275 s6 (show Fr [] [4, 11, 12, 13, 14, 17] σ s6 ∧ ((s6 0 3) = σ 0 3 ∧ σ 0 4 ≤ (s6 0 4) ∧ (s6 0 4) < (s6 0 3) ∧ 0 ≤ (s6 0 14) ∧ ((s6 0 13) = 0 → (s6 0 14) ≤ 300) ∧ ((s6 0 13) = 1 → (s6 0 14) ≤ 4000) ∧ (0 ≤ (s6 0 13) ∧ (s6 0 13) ≤ (s6 0 4))) from by first | trivial | omega | (refine ⟨by assumption, ?_⟩; omega) | (refine ⟨?_, ?_⟩ <;> omega))
                        · intro v58 e58 l58 h58
                          have e58 : v58 = s6 0 14 := e58
                          intro z59 t59 e59 l59 h59
                          try have w59 : t59 = 0 := by omega
                          refine s_peek (σ := s6)  (show 0 ≤ (s6 0 4) ∧ (s6 0 3) ≤ 940 from by omega) (fun r60 p60 => ?_)
                          have p60 : r60 = pkf s6 ∧ (((s6 0 4) < (s6 0 3) ∧ 0 ≤ r60 ∧ r60 ≤ 255) ∨ ((s6 0 3) ≤ (s6 0 4) ∧ r60 = -1)) := p60
                          intro z61 t61 e61 l61 h61
                          try have w61 : t61 = 0 := by omega
                          intro z62 t62 e62 l62 h62
                          try have w62 : t62 = 0 := by omega
                          have hF := hF.p (j := 14) (v := z62) (by decide)
                          exact lp_275 (xput s6 0 14 z62) (show Fr [] [4, 11, 12, 13, 14, 17] σ (xput s6 0 14 z62) ∧ ((s6 0 3) = σ 0 3 ∧ σ 0 4 ≤ (s6 0 4) ∧ (s6 0 4) < (s6 0 3) ∧ 0 ≤ (z62) ∧ ((s6 0 13) = 0 → (z62) ≤ 300) ∧ ((s6 0 13) = 1 → (z62) ≤ 4000) ∧ (0 ≤ (s6 0 13) ∧ (s6 0 13) ≤ (s6 0 4))) from by first | trivial | omega | (refine ⟨by assumption, ?_⟩; omega) | (refine ⟨?_, ?_⟩ <;> omega))
                      intro v64 e64 l64 h64
                      have e64 : v64 = s2 0 13 := e64
                      refine And.intro (fun c65 => ?_) (fun c65 => ?_)
                      · exact lp_248 s2 (show Fr [] [4, 11, 12, 13, 14, 17] σ s2 ∧ ((s2 0 3) = σ 0 3 ∧ σ 0 4 ≤ (s2 0 4) ∧ (s2 0 4) ≤ (s2 0 3) ∧ 0 ≤ (s2 0 14) ∧ ((s2 0 13) = 0 → (s2 0 14) = 0) ∧ ((s2 0 13) = 1 → (s2 0 14) ≤ 300) ∧ ((s2 0 13) = 2 → (s2 0 14) ≤ 4000) ∧ (0 ≤ (s2 0 13) ∧ (s2 0 13) ≤ (s2 0 4)) ∧ (0 < (s2 0 13) → σ 0 4 < (s2 0 4))) ∧ (s2 0 4) < (s2 0 3) ∧ pkf s2 = pkf s2 from by first | trivial | omega | (refine ⟨by assumption, ?_⟩; omega) | (refine ⟨?_, ?_⟩ <;> omega))
                      · intro v66 e66 l66 h66
                        have e66 : v66 = s2 0 17 := e66
                        intro z67 e67 l67 h67
                        refine s_peek (σ := s2)  (show 0 ≤ (s2 0 4) ∧ (s2 0 3) ≤ 940 from by omega) (fun r68 p68 => ?_)
                        have p68 : r68 = pkf s2 ∧ (((s2 0 4) < (s2 0 3) ∧ 0 ≤ r68 ∧ r68 ≤ 255) ∨ ((s2 0 3) ≤ (s2 0 4) ∧ r68 = -1)) := p68
                        intro z69 e69 l69 h69
                        have hF := hF.p (j := 17) (v := z69) (by decide)
                        exact lp_248 (xput s2 0 17 z69) (show Fr [] [4, 11, 12, 13, 14, 17] σ (xput s2 0 17 z69) ∧ ((s2 0 3) = σ 0 3 ∧ σ 0 4 ≤ (s2 0 4) ∧ (s2 0 4) ≤ (s2 0 3) ∧ 0 ≤ (s2 0 14) ∧ ((s2 0 13) = 0 → (s2 0 14) = 0) ∧ ((s2 0 13) = 1 → (s2 0 14) ≤ 300) ∧ ((s2 0 13) = 2 → (s2 0 14) ≤ 4000) ∧ (0 ≤ (s2 0 13) ∧ (s2 0 13) ≤ (s2 0 4)) ∧ (0 < (s2 0 13) → σ 0 4 < (s2 0 4))) ∧ (s2 0 4) < (s2 0 3) ∧ pkf (xput s2 0 17 z69) = pkf s2 from by first | trivial | omega | (refine ⟨by assumption, ?_⟩; omega) | (refine ⟨?_, ?_⟩ <;> omega))
                    · refine And.intro (Nat.le_of_ble_eq_true rfl) ?_
                      have lp_248 : ∀ (s6 : xS), (Fr [] [4, 11, 12, 13, 14, 17] σ s6 ∧ (s6 0 3 = σ 0 3 ∧ σ 0 4 ≤ s6 0 4 ∧ s6 0 4 ≤ s6 0 3 ∧ 0 ≤ s6 0 14 ∧ (s6 0 13 = 0 → s6 0 14 = 0) ∧ (s6 0 13 = 1 → s6 0 14 ≤ 300) ∧ (s6 0 13 = 2 → s6 0 14 ≤ 4000) ∧ (0 ≤ s6 0 13 ∧ s6 0 13 ≤ s6 0 4) ∧ (0 < s6 0 13 → σ 0 4 < s6 0 4)) ∧ s6 0 4 < s6 0 3 ∧ pkf s6 = pkf s2) → X 248 [xvr 0, xvi r13, xvi r16, xvi 1] s6 := by
                        intro s6 hv_248
                        obtain ⟨hF, hv_248⟩ := hv_248
                        refine hX 400 248 _ _ ?_
                        have lp_275 : ∀ (s7 : xS), (Fr [] [4, 11, 12, 13, 14, 17] σ s7 ∧ (s7 0 3 = σ 0 3 ∧ σ 0 4 ≤ s7 0 4 ∧ s7 0 4 < s7 0 3 ∧ 0 ≤ s7 0 14 ∧ (s7 0 13 = 0 → s7 0 14 ≤ 300) ∧ (s7 0 13 = 1 → s7 0 14 ≤ 4000) ∧ (0 ≤ s7 0 13 ∧ s7 0 13 ≤ s7 0 4))) → X 275 [xvr 0, xvi r13, xvi r16, xvi 1] s7 := by
                          intro s7 hv_275
                          obtain ⟨hF, hv_275⟩ := hv_275
                          refine hX 400 275 _ _ ?_
                          intro v73 e73 l73 h73
                          have e73 : v73 = s7 0 13 := e73
                          intro z74 t74 e74 l74 h74
                          try have w74 : t74 = 0 := by omega
                          have hF := hF.p (j := 13) (v := z74) (by decide)
                          intro v76 e76 l76 h76
                          have e76 : v76 = s7 0 4 := e76
                          intro z77 t77 e77 l77 h77
                          try have w77 : t77 = 0 := by omega
                          have hF := hF.p (j := 4) (v := z77) (by decide)
                          exact ih_181 _ (by omega) 1 (xput (xput s7 0 13 z74) 0 4 z77) rfl (show Fr [] [4, 11, 12, 13, 14, 17] σ (xput (xput s7 0 13 z74) 0 4 z77) ∧ ((s7 0 3) = σ 0 3 ∧ σ 0 4 ≤ (z77) ∧ (z77) ≤ (s7 0 3) ∧ 0 ≤ (s7 0 14) ∧ ((z74) = 0 → (s7 0 14) = 0) ∧ ((z74) = 1 → (s7 0 14) ≤ 300) ∧ ((z74) = 2 → (s7 0 14) ≤ 4000) ∧ (0 ≤ (z74) ∧ (z74) ≤ (z77)) ∧ (0 < (z74) → σ 0 4 < (z77))) ∧ ((z74) = 0 → ((97 ≤ pkf (xput (xput s7 0 13 z74) 0 4 z77) ∧ pkf (xput (xput s7 0 13 z74) 0 4 z77) ≤ 122) ∨ (48 ≤ pkf (xput (xput s7 0 13 z74) 0 4 z77) ∧ pkf (xput (xput s7 0 13 z74) 0 4 z77) ≤ 57))) from by first | trivial | omega | (refine ⟨by assumption, ?_⟩; omega) | (refine ⟨?_, ?_⟩ <;> omega))
                        intro v79 e79 l79 h79
                        have e79 : v79 = s6 0 13 := e79
                        refine And.intro (fun c80 => ?_) (fun c80 => ?_)
                        · exact lp_275 s6 (show Fr [] [4, 11, 12, 13, 14, 17] σ s6 ∧ ((s6 0 3) = σ 0 3 ∧ σ 0 4 ≤ (s6 0 4) ∧ (s6 0 4) < (s6 0 3) ∧ 0 ≤ (s6 0 14) ∧ ((s6 0 13) = 0 → (s6 0 14) ≤ 300) ∧ ((s6 0 13) = 1 → (s6 0 14) ≤ 4000) ∧ (0 ≤ (s6 0 13) ∧ (s6 0 13) ≤ (s6 0 4))) from by first | trivial | omega | (refine ⟨by assumption, ?_⟩; omega) | (refine ⟨?_, ?_⟩ <;> omega))
                        · intro v81 e81 l81 h81
                          have e81 : v81 = s6 0 14 := e81
                          intro z82 t82 e82 l82 h82
                          try have w82 : t82 = 0 := by omega
                          refine s_peek (σ := s6)  (show 0 ≤ (s6 0 4) ∧ (s6 0 3) ≤ 940 from by omega) (fun r83 p83 => ?_)
                          have p83 : r83 = pkf s6 ∧ (((s6 0 4) < (s6 0 3) ∧ 0 ≤ r83 ∧ r83 ≤ 255) ∨ ((s6 0 3) ≤ (s6 0 4) ∧ r83 = -1)) := p83
                          intro z84 t84 e84 l84 h84
                          try have w84 : t84 = 0 := by omega
                          intro z85 t85 e85 l85 h85
                          try have w85 : t85 = 0 := by omega
                          have hF := hF.p (j := 14) (v := z85) (by decide)
                          exact lp_275 (xput s6 0 14 z85) (show Fr [] [4, 11, 12, 13, 14, 17] σ (xput s6 0 14 z85) ∧ ((s6 0 3) = σ 0 3 ∧ σ 0 4 ≤ (s6 0 4) ∧ (s6 0 4) < (s6 0 3) ∧ 0 ≤ (z85) ∧ ((s6 0 13) = 0 → (z85) ≤ 300) ∧ ((s6 0 13) = 1 → (z85) ≤ 4000) ∧ (0 ≤ (s6 0 13) ∧ (s6 0 13) ≤ (s6 0 4))) from by first | trivial | omega | (refine ⟨by assumption, ?_⟩; omega) | (refine ⟨?_, ?_⟩ <;> omega))
                      intro v87 e87 l87 h87
                      have e87 : v87 = s2 0 13 := e87
                      refine And.intro (fun c88 => ?_) (fun c88 => ?_)
                      · exact lp_248 s2 (show Fr [] [4, 11, 12, 13, 14, 17] σ s2 ∧ ((s2 0 3) = σ 0 3 ∧ σ 0 4 ≤ (s2 0 4) ∧ (s2 0 4) ≤ (s2 0 3) ∧ 0 ≤ (s2 0 14) ∧ ((s2 0 13) = 0 → (s2 0 14) = 0) ∧ ((s2 0 13) = 1 → (s2 0 14) ≤ 300) ∧ ((s2 0 13) = 2 → (s2 0 14) ≤ 4000) ∧ (0 ≤ (s2 0 13) ∧ (s2 0 13) ≤ (s2 0 4)) ∧ (0 < (s2 0 13) → σ 0 4 < (s2 0 4))) ∧ (s2 0 4) < (s2 0 3) ∧ pkf s2 = pkf s2 from by first | trivial | omega | (refine ⟨by assumption, ?_⟩; omega) | (refine ⟨?_, ?_⟩ <;> omega))
                      · intro v89 e89 l89 h89
                        have e89 : v89 = s2 0 17 := e89
                        intro z90 e90 l90 h90
                        refine s_peek (σ := s2)  (show 0 ≤ (s2 0 4) ∧ (s2 0 3) ≤ 940 from by omega) (fun r91 p91 => ?_)
                        have p91 : r91 = pkf s2 ∧ (((s2 0 4) < (s2 0 3) ∧ 0 ≤ r91 ∧ r91 ≤ 255) ∨ ((s2 0 3) ≤ (s2 0 4) ∧ r91 = -1)) := p91
                        intro z92 e92 l92 h92
                        have hF := hF.p (j := 17) (v := z92) (by decide)
                        exact lp_248 (xput s2 0 17 z92) (show Fr [] [4, 11, 12, 13, 14, 17] σ (xput s2 0 17 z92) ∧ ((s2 0 3) = σ 0 3 ∧ σ 0 4 ≤ (s2 0 4) ∧ (s2 0 4) ≤ (s2 0 3) ∧ 0 ≤ (s2 0 14) ∧ ((s2 0 13) = 0 → (s2 0 14) = 0) ∧ ((s2 0 13) = 1 → (s2 0 14) ≤ 300) ∧ ((s2 0 13) = 2 → (s2 0 14) ≤ 4000) ∧ (0 ≤ (s2 0 13) ∧ (s2 0 13) ≤ (s2 0 4)) ∧ (0 < (s2 0 13) → σ 0 4 < (s2 0 4))) ∧ (s2 0 4) < (s2 0 3) ∧ pkf (xput s2 0 17 z92) = pkf s2 from by first | trivial | omega | (refine ⟨by assumption, ?_⟩; omega) | (refine ⟨?_, ?_⟩ <;> omega))
                refine s_peek (σ := s2)  (show 0 ≤ (s2 0 4) ∧ (s2 0 3) ≤ 940 from by omega) (fun r94 p94 => ?_)
                have p94 : r94 = pkf s2 ∧ (((s2 0 4) < (s2 0 3) ∧ 0 ≤ r94 ∧ r94 ≤ 255) ∨ ((s2 0 3) ≤ (s2 0 4) ∧ r94 = -1)) := p94
                refine s_isSmall (σ := s2) (c := r94)  (fun r95 p95 => ?_)
                have p95 : (r95 = 1 ∧ 97 ≤ r94 ∧ r94 ≤ 122) ∨ (r95 = 0 ∧ (r94 < 97 ∨ 122 < r94)) := p95
                refine And.intro (fun c96 => ?_) (fun c96 => ?_)
                · exact lp_201 () (show s2 0 4 < s2 0 3 ∧ 48 ≤ pkf s2 ∧ pkf s2 ≤ 122 from by first | trivial | omega | (refine ⟨by assumption, ?_⟩; omega) | (refine ⟨?_, ?_⟩ <;> omega))
                · refine s_peek (σ := s2)  (show 0 ≤ (s2 0 4) ∧ (s2 0 3) ≤ 940 from by omega) (fun r97 p97 => ?_)
                  have p97 : r97 = pkf s2 ∧ (((s2 0 4) < (s2 0 3) ∧ 0 ≤ r97 ∧ r97 ≤ 255) ∨ ((s2 0 3) ≤ (s2 0 4) ∧ r97 = -1)) := p97
                  refine s_isDigit (σ := s2) (c := r97)  (fun r98 p98 => ?_)
                  have p98 : (r98 = 1 ∧ 48 ≤ r97 ∧ r97 ≤ 57) ∨ (r98 = 0 ∧ (r97 < 48 ∨ 57 < r97)) := p98
                  refine And.intro (fun c99 => ?_) (fun c99 => ?_)
                  · refine And.intro (fun c100 => ?_) (fun c100 => ?_)
                    · have hF := hF.p (j := 11) (v := 4) (by decide)
                      refine And.intro rfl (And.intro rfl ?_)
                      exact hQ _ hF (show (s2 0 3) = σ 0 3 ∧ σ 0 4 ≤ (s2 0 4) ∧ (s2 0 4) ≤ (s2 0 3) ∧ (0 ≤ (4) ∧ (4) ≤ 4) ∧ (1 ≤ (4) ∧ (4) ≤ 3 → σ 0 4 < (s2 0 4)) ∧ 0 ≤ (s2 0 14) from by first | trivial | omega)
                    · intro v102 e102 l102 h102
                      have e102 : v102 = s2 0 13 := e102
                      refine And.intro (fun c103 => ?_) (fun c103 => ?_)
                      · refine And.intro (fun c104 => ?_) (fun c104 => ?_)
                        · refine And.intro (fun c105 => ?_) (fun c105 => ?_)
                          · have hF := hF.p (j := 11) (v := 2) (by decide)
                            refine And.intro rfl (And.intro rfl ?_)
                            exact hQ _ hF (show (s2 0 3) = σ 0 3 ∧ σ 0 4 ≤ (s2 0 4) ∧ (s2 0 4) ≤ (s2 0 3) ∧ (0 ≤ (2) ∧ (2) ≤ 4) ∧ (1 ≤ (2) ∧ (2) ≤ 3 → σ 0 4 < (s2 0 4)) ∧ 0 ≤ (s2 0 14) from by first | trivial | omega)
                          · have hF := hF.p (j := 11) (v := 1) (by decide)
                            refine And.intro rfl (And.intro rfl ?_)
                            exact hQ _ hF (show (s2 0 3) = σ 0 3 ∧ σ 0 4 ≤ (s2 0 4) ∧ (s2 0 4) ≤ (s2 0 3) ∧ (0 ≤ (1) ∧ (1) ≤ 4) ∧ (1 ≤ (1) ∧ (1) ≤ 3 → σ 0 4 < (s2 0 4)) ∧ 0 ≤ (s2 0 14) from by first | trivial | omega)
                        · have hF := hF.p (j := 11) (v := 4) (by decide)
                          refine And.intro rfl (And.intro rfl ?_)
                          exact hQ _ hF (show (s2 0 3) = σ 0 3 ∧ σ 0 4 ≤ (s2 0 4) ∧ (s2 0 4) ≤ (s2 0 3) ∧ (0 ≤ (4) ∧ (4) ≤ 4) ∧ (1 ≤ (4) ∧ (4) ≤ 3 → σ 0 4 < (s2 0 4)) ∧ 0 ≤ (s2 0 14) from by first | trivial | omega)
                      · refine And.intro (fun c109 => ?_) (fun c109 => ?_)
                        · refine And.intro (fun c110 => ?_) (fun c110 => ?_)
                          · have hF := hF.p (j := 11) (v := 2) (by decide)
                            refine And.intro rfl (And.intro rfl ?_)
                            exact hQ _ hF (show (s2 0 3) = σ 0 3 ∧ σ 0 4 ≤ (s2 0 4) ∧ (s2 0 4) ≤ (s2 0 3) ∧ (0 ≤ (2) ∧ (2) ≤ 4) ∧ (1 ≤ (2) ∧ (2) ≤ 3 → σ 0 4 < (s2 0 4)) ∧ 0 ≤ (s2 0 14) from by first | trivial | omega)
                          · have hF := hF.p (j := 11) (v := 1) (by decide)
                            refine And.intro rfl (And.intro rfl ?_)
                            exact hQ _ hF (show (s2 0 3) = σ 0 3 ∧ σ 0 4 ≤ (s2 0 4) ∧ (s2 0 4) ≤ (s2 0 3) ∧ (0 ≤ (1) ∧ (1) ≤ 4) ∧ (1 ≤ (1) ∧ (1) ≤ 3 → σ 0 4 < (s2 0 4)) ∧ 0 ≤ (s2 0 14) from by first | trivial | omega)
                        · have hF := hF.p (j := 11) (v := 4) (by decide)
                          refine And.intro rfl (And.intro rfl ?_)
                          exact hQ _ hF (show (s2 0 3) = σ 0 3 ∧ σ 0 4 ≤ (s2 0 4) ∧ (s2 0 4) ≤ (s2 0 3) ∧ (0 ≤ (4) ∧ (4) ≤ 4) ∧ (1 ≤ (4) ∧ (4) ≤ 3 → σ 0 4 < (s2 0 4)) ∧ 0 ≤ (s2 0 14) from by first | trivial | omega)
                  · exact lp_201 () (show s2 0 4 < s2 0 3 ∧ 48 ≤ pkf s2 ∧ pkf s2 ≤ 122 from by first | trivial | omega | (refine ⟨by assumption, ?_⟩; omega) | (refine ⟨?_, ?_⟩ <;> omega))
              exact lp_181 _ 1 (xput (xput (xput (xput s1 0 12 v9) 0 13 0) 0 17 0) 0 14 0) rfl (show Fr [] [4, 11, 12, 13, 14, 17] σ (xput (xput (xput (xput s1 0 12 v9) 0 13 0) 0 17 0) 0 14 0) ∧ ((s1 0 3) = σ 0 3 ∧ σ 0 4 ≤ (s1 0 4) ∧ (s1 0 4) ≤ (s1 0 3) ∧ 0 ≤ (0) ∧ ((0) = 0 → (0) = 0) ∧ ((0) = 1 → (0) ≤ 300) ∧ ((0) = 2 → (0) ≤ 4000) ∧ (0 ≤ (0) ∧ (0) ≤ (s1 0 4)) ∧ (0 < (0) → σ 0 4 < (s1 0 4))) ∧ ((0) = 0 → ((97 ≤ pkf (xput (xput (xput (xput s1 0 12 v9) 0 13 0) 0 17 0) 0 14 0) ∧ pkf (xput (xput (xput (xput s1 0 12 v9) 0 13 0) 0 17 0) 0 14 0) ≤ 122) ∨ (48 ≤ pkf (xput (xput (xput (xput s1 0 12 v9) 0 13 0) 0 17 0) 0 14 0) ∧ pkf (xput (xput (xput (xput s1 0 12 v9) 0 13 0) 0 17 0) 0 14 0) ≤ 57))) from by first | trivial | omega | (refine ⟨by assumption, ?_⟩; omega) | (refine ⟨?_, ?_⟩ <;> omega))
            refine s_isSmall (σ := (xput (xput s1 0 12 v9) 0 13 0)) (c := r13)  (fun r114 p114 => ?_)
            have p114 : (r114 = 1 ∧ 97 ≤ r13 ∧ r13 ≤ 122) ∨ (r114 = 0 ∧ (r13 < 97 ∨ 122 < r13)) := p114
            refine And.intro (fun c115 => ?_) (fun c115 => ?_)
            · exact lp_164 () (show (97 ≤ r13 ∧ r13 ≤ 122) ∨ (48 ≤ r13 ∧ r13 ≤ 57) from by first | trivial | omega | (refine ⟨by assumption, ?_⟩; omega) | (refine ⟨?_, ?_⟩ <;> omega))
            · refine s_isDigit (σ := (xput (xput s1 0 12 v9) 0 13 0)) (c := r13)  (fun r116 p116 => ?_)
              have p116 : (r116 = 1 ∧ 48 ≤ r13 ∧ r13 ≤ 57) ∨ (r116 = 0 ∧ (r13 < 48 ∨ 57 < r13)) := p116
              refine And.intro (fun c117 => ?_) (fun c117 => ?_)
              · exact lp_164 () (show (97 ≤ r13 ∧ r13 ≤ 122) ∨ (48 ≤ r13 ∧ r13 ≤ 57) from by first | trivial | omega | (refine ⟨by assumption, ?_⟩; omega) | (refine ⟨?_, ?_⟩ <;> omega))
              · refine And.intro (fun c118 => ?_) (fun c118 => ?_)
                · have hF := hF.p (j := 11) (v := 3) (by decide)
                  have hF := hF.p (j := 14) (v := r13) (by decide)
                  intro v121 e121 l121 h121
                  have e121 : v121 = s1 0 4 := e121
                  intro z122 t122 e122 l122 h122
                  try have w122 : t122 = 0 := by omega
                  have hF := hF.p (j := 4) (v := z122) (by decide)
                  refine And.intro rfl (And.intro rfl ?_)
                  exact hQ _ hF (show (s1 0 3) = σ 0 3 ∧ σ 0 4 ≤ (z122) ∧ (z122) ≤ (s1 0 3) ∧ (0 ≤ (3) ∧ (3) ≤ 4) ∧ (1 ≤ (3) ∧ (3) ≤ 3 → σ 0 4 < (z122)) ∧ 0 ≤ (r13) from by first | trivial | omega)
                · refine And.intro (fun c124 => ?_) (fun c124 => ?_)
                  · have hF := hF.p (j := 11) (v := 3) (by decide)
                    have hF := hF.p (j := 14) (v := r13) (by decide)
                    intro v127 e127 l127 h127
                    have e127 : v127 = s1 0 4 := e127
                    intro z128 t128 e128 l128 h128
                    try have w128 : t128 = 0 := by omega
                    have hF := hF.p (j := 4) (v := z128) (by decide)
                    refine And.intro rfl (And.intro rfl ?_)
                    exact hQ _ hF (show (s1 0 3) = σ 0 3 ∧ σ 0 4 ≤ (z128) ∧ (z128) ≤ (s1 0 3) ∧ (0 ≤ (3) ∧ (3) ≤ 4) ∧ (1 ≤ (3) ∧ (3) ≤ 3 → σ 0 4 < (z128)) ∧ 0 ≤ (r13) from by first | trivial | omega)
                  · refine And.intro (fun c130 => ?_) (fun c130 => ?_)
                    · have hF := hF.p (j := 11) (v := 3) (by decide)
                      have hF := hF.p (j := 14) (v := r13) (by decide)
                      intro v133 e133 l133 h133
                      have e133 : v133 = s1 0 4 := e133
                      intro z134 t134 e134 l134 h134
                      try have w134 : t134 = 0 := by omega
                      have hF := hF.p (j := 4) (v := z134) (by decide)
                      refine And.intro rfl (And.intro rfl ?_)
                      exact hQ _ hF (show (s1 0 3) = σ 0 3 ∧ σ 0 4 ≤ (z134) ∧ (z134) ≤ (s1 0 3) ∧ (0 ≤ (3) ∧ (3) ≤ 4) ∧ (1 ≤ (3) ∧ (3) ≤ 3 → σ 0 4 < (z134)) ∧ 0 ≤ (r13) from by first | trivial | omega)
                    · refine And.intro (fun c136 => ?_) (fun c136 => ?_)
                      · have hF := hF.p (j := 11) (v := 4) (by decide)
                        have hF := hF.p (j := 14) (v := r13) (by decide)
                        intro v139 e139 l139 h139
                        have e139 : v139 = s1 0 4 := e139
                        intro z140 t140 e140 l140 h140
                        try have w140 : t140 = 0 := by omega
                        have hF := hF.p (j := 4) (v := z140) (by decide)
                        refine And.intro rfl (And.intro rfl ?_)
                        exact hQ _ hF (show (s1 0 3) = σ 0 3 ∧ σ 0 4 ≤ (z140) ∧ (z140) ≤ (s1 0 3) ∧ (0 ≤ (4) ∧ (4) ≤ 4) ∧ (1 ≤ (4) ∧ (4) ≤ 3 → σ 0 4 < (z140)) ∧ 0 ≤ (r13) from by first | trivial | omega)
                      · refine And.intro (fun c142 => ?_) (fun c142 => ?_)
                        · have hF := hF.p (j := 11) (v := 4) (by decide)
                          have hF := hF.p (j := 14) (v := r13) (by decide)
                          intro v145 e145 l145 h145
                          have e145 : v145 = s1 0 4 := e145
                          intro z146 t146 e146 l146 h146
                          try have w146 : t146 = 0 := by omega
                          have hF := hF.p (j := 4) (v := z146) (by decide)
                          refine And.intro rfl (And.intro rfl ?_)
                          exact hQ _ hF (show (s1 0 3) = σ 0 3 ∧ σ 0 4 ≤ (z146) ∧ (z146) ≤ (s1 0 3) ∧ (0 ≤ (4) ∧ (4) ≤ 4) ∧ (1 ≤ (4) ∧ (4) ≤ 3 → σ 0 4 < (z146)) ∧ 0 ≤ (r13) from by first | trivial | omega)
                        · have hF := hF.p (j := 11) (v := 3) (by decide)
                          have hF := hF.p (j := 14) (v := r13) (by decide)
                          intro v150 e150 l150 h150
                          have e150 : v150 = s1 0 4 := e150
                          intro z151 t151 e151 l151 h151
                          try have w151 : t151 = 0 := by omega
                          have hF := hF.p (j := 4) (v := z151) (by decide)
                          refine And.intro rfl (And.intro rfl ?_)
                          exact hQ _ hF (show (s1 0 3) = σ 0 3 ∧ σ 0 4 ≤ (z151) ∧ (z151) ≤ (s1 0 3) ∧ (0 ≤ (3) ∧ (3) ≤ 4) ∧ (1 ≤ (3) ∧ (3) ≤ 3 → σ 0 4 < (z151)) ∧ 0 ≤ (r13) from by first | trivial | omega)
          · have hF := hF.p (j := 11) (v := 0) (by decide)
            refine And.intro rfl (And.intro rfl ?_)
            exact hQ _ hF (show (s1 0 3) = σ 0 3 ∧ σ 0 4 ≤ (s1 0 4) ∧ (s1 0 4) ≤ (s1 0 3) ∧ (0 ≤ (0) ∧ (0) ≤ 4) ∧ (1 ≤ (0) ∧ (0) ≤ 3 → σ 0 4 < (s1 0 4)) ∧ 0 ≤ (s1 0 14) from by first | trivial | omega)
        intro v154 e154 l154 h154
        have e154 : v154 = s1 0 3 := e154
        intro v155 e155 l155 h155
        have e155 : v155 = s1 0 5 := e155
        refine And.intro (fun c156 => ?_) (fun c156 => ?_)
        · exact lp_80 () (show True from by first | trivial | omega | (refine ⟨by assumption, ?_⟩; omega) | (refine ⟨?_, ?_⟩ <;> omega))
        · intro v157 e157 l157 h157
          have e157 : v157 = s1 0 4 := e157
          intro v158 e158 l158 h158
          have e158 : v158 = s1 0 5 := e158
          refine And.intro (fun c159 => ?_) (fun c159 => ?_)
          · exact lp_80 () (show True from by first | trivial | omega | (refine ⟨by assumption, ?_⟩; omega) | (refine ⟨?_, ?_⟩ <;> omega))
          · intro v160 e160 l160 h160
            have e160 : v160 = s1 0 5 := e160
            have hF := hF.p (j := 12) (v := v160) (by decide)
            have hF := hF.p (j := 11) (v := 4) (by decide)
            refine And.intro rfl (And.intro rfl ?_)
            exact hQ _ hF (show (s1 0 3) = σ 0 3 ∧ σ 0 4 ≤ (s1 0 4) ∧ (s1 0 4) ≤ (s1 0 3) ∧ (0 ≤ (4) ∧ (4) ≤ 4) ∧ (1 ≤ (4) ∧ (4) ≤ 3 → σ 0 4 < (s1 0 4)) ∧ 0 ≤ (s1 0 14) from by first | trivial | omega)
      · refine hX 400 18 _ _ ?_
        intro v163 e163 l163 h163
        have e163 : v163 = s1 0 4 := e163
        intro z164 t164 e164 l164 h164
        try have w164 : t164 = 0 := by omega
        have hF := hF.p (j := 4) (v := z164) (by decide)
        exact ih_0 _ (by omega) (xput s1 0 4 z164) rfl (show Fr [] [4, 11, 12, 13, 14, 17] σ (xput s1 0 4 z164) ∧ ((s1 0 3) = σ 0 3 ∧ σ 0 4 ≤ (z164) ∧ (z164) ≤ (s1 0 3) ∧ 0 ≤ (s1 0 14)) from by first | trivial | omega | (refine ⟨by assumption, ?_⟩; omega) | (refine ⟨?_, ?_⟩ <;> omega))
  exact lp_0 _ σ rfl (show Fr [] [4, 11, 12, 13, 14, 17] σ σ ∧ ((σ 0 3) = σ 0 3 ∧ σ 0 4 ≤ (σ 0 4) ∧ (σ 0 4) ≤ (σ 0 3) ∧ 0 ≤ (σ 0 14)) from by first | trivial | omega | (refine ⟨by assumption, ?_⟩; omega) | (refine ⟨?_, ?_⟩ <;> omega))
