set_option maxHeartbeats 4000000 in
set_option maxRecDepth 100000 in
theorem s_hand0 {σ : xS} {k kind : Int} {Q : Option xV → xS → Prop} (hI : RI σ) (hp0 : 0 ≤ k ∧ k ≤ 5) (hp1 : 0 ≤ kind ∧ kind ≤ 12) (hQ : ∀ r : Int, (r = σ 2 (60 + 13 * k + kind).toNat ∧ 0 ≤ r ∧ r ≤ 4) → Q (some (xvi r)) σ) : xT kX11_handOf [xvr 0, xvi k, xvi kind, xvi 0] σ Q := by
  refine ⟨Nat.le_of_ble_eq_true rfl, fun X hX => ?_⟩
  show X 0 [xvr 0, xvi k, xvi kind, xvi 0] σ
  have hI : RK σ σ := RK.rf hI
  refine hX 400 0 _ _ ?_
  intro z1 t1 e1 l1 h1
  try have w1 : t1 = 0 := by omega
  intro z2 t2 e2 l2 h2
  try have w2 : t2 = 0 := by omega
  intro z3 t3 e3 l3 h3
  try have w3 : t3 = 0 := by omega
  refine And.intro (rfl) (And.intro (⟨by omega, by omega⟩) ?_)
  intro v4 e4 l4 h4
  have e4 : v4 = σ 2 z3.toNat := e4
  intro z5 t5 e5 l5 h5
  try have w5 : t5 = 0 := by omega
  refine And.intro (rfl) (And.intro (⟨by omega, by omega⟩) ?_)
  intro z7 t7 e7 l7 h7
  try have w7 : t7 = 0 := by omega
  intro z8 t8 e8 l8 h8
  try have w8 : t8 = 0 := by omega
  intro z9 t9 e9 l9 h9
  try have w9 : t9 = 0 := by omega
  refine And.intro (rfl) (And.intro (⟨by omega, by omega⟩) ?_)
  intro v10 e10 l10 h10
  have e10 : v10 = (xput σ 2 z3.toNat z5) 2 z9.toNat := e10
  refine And.intro rfl ?_
  have hx : xput σ 2 z3.toNat z5 = σ := xput_id (by rw [← e4]; omega)
  have hz : z9 = 60 + 13 * k + kind := by omega
  rw [hx] at e10
  rw [hz] at e10
  have r1 := hI.1.handI (z := 60 + 13 * k + kind) (by omega) (by omega)
  have hq := hQ v10 ⟨e10, by omega, by omega⟩
  rw [← hx] at hq
  exact hq
set_option maxHeartbeats 4000000 in
set_option maxRecDepth 100000 in
theorem s_whyOf {σ : xS} {a b kind : Int} {Q : Option xV → xS → Prop} (hI : RI σ) (hp0 : 0 ≤ a ∧ a < σ 2 1) (hp1 : 0 ≤ kind ∧ kind < σ 2 0) (hQ : ∀ r : Int, ((r = 0 ∧ σ 2 4 = a ∧ 1 ≤ σ 2 (60 + 13 * a + kind).toNat ∧ ¬ a = b) ∨ 1 ≤ r) → Q (some (xvi r)) σ) : xT kX11_whyOf [xvr 0, xvi a, xvi b, xvi kind] σ Q := by
  refine ⟨Nat.le_of_ble_eq_true rfl, fun X hX => ?_⟩
  show X 0 [xvr 0, xvi a, xvi b, xvi kind] σ
  have hI : RK σ σ := RK.rf hI
  have hb0 := hI.1.kinds; have hb1 := hI.1.persons
  refine hX 400 0 _ _ ?_
  refine And.intro (rfl) (And.intro (⟨by omega, by omega⟩) ?_)
  intro v1 e1 l1 h1
  have e1 : v1 = σ 2 4 := e1
  have rv1 : -1 ≤ (σ 2 4) ∧ (σ 2 4) < (σ 2 1) := hI.1.turn
  refine And.intro (fun c2 => ?_) (fun c2 => ?_)
  · refine And.intro (rfl) (And.intro (⟨by omega, by omega⟩) ?_)
    intro v3 e3 l3 h3
    have e3 : v3 = σ 2 4 := e3
    have rv3 : -1 ≤ (σ 2 4) ∧ (σ 2 4) < (σ 2 1) := hI.1.turn
    refine And.intro (fun c4 => ?_) (fun c4 => ?_)
    · refine s_hand0 (σ := σ) (k := a) (kind := kind) hI.1 (show 0 ≤ a ∧ a ≤ 5 from by omega) (show 0 ≤ kind ∧ kind ≤ 12 from by omega) (fun r5 p5 => ?_)
      have p5 : r5 = σ 2 (60 + 13 * a + kind).toNat ∧ 0 ≤ r5 ∧ r5 ≤ 4 := p5
      refine And.intro (fun c6 => ?_) (fun c6 => ?_)
      · refine And.intro (fun c7 => ?_) (fun c7 => ?_)
        · refine And.intro rfl ?_
          exact hQ _ (show (0 = 0 ∧ σ 2 4 = a ∧ 1 ≤ σ 2 (60 + 13 * a + kind).toNat ∧ ¬ a = b) ∨ 1 ≤ 0 from by first | trivial | omega)
        · refine And.intro rfl ?_
          exact hQ _ (show (4 = 0 ∧ σ 2 4 = a ∧ 1 ≤ σ 2 (60 + 13 * a + kind).toNat ∧ ¬ a = b) ∨ 1 ≤ 4 from by first | trivial | omega)
      · refine And.intro rfl ?_
        exact hQ _ (show (3 = 0 ∧ σ 2 4 = a ∧ 1 ≤ σ 2 (60 + 13 * a + kind).toNat ∧ ¬ a = b) ∨ 1 ≤ 3 from by first | trivial | omega)
    · refine And.intro rfl ?_
      exact hQ _ (show (2 = 0 ∧ σ 2 4 = a ∧ 1 ≤ σ 2 (60 + 13 * a + kind).toNat ∧ ¬ a = b) ∨ 1 ≤ 2 from by first | trivial | omega)
  · refine And.intro rfl ?_
    exact hQ _ (show (1 = 0 ∧ σ 2 4 = a ∧ 1 ≤ σ 2 (60 + 13 * a + kind).toNat ∧ ¬ a = b) ∨ 1 ≤ 1 from by first | trivial | omega)
set_option maxHeartbeats 4000000 in
set_option maxRecDepth 100000 in
theorem s_why {σ : xS} {a b kind : Int} {Q : Option xV → xS → Prop} (hI : RI σ) (hQ : ∀ r : Int, ∀ σ' : xS, RK σ σ' → Q (some (xvi r)) σ') : xT kX11_why [xvr 0, xvi a, xvi b, xvi kind] σ Q := by
  refine ⟨Nat.le_of_ble_eq_true rfl, fun X hX => ?_⟩
  show X 0 [xvr 0, xvi a, xvi b, xvi kind] σ
  have hI : RK σ σ := RK.rf hI
  have hb0 := hI.1.kinds; have hb1 := hI.1.persons
  refine hX 400 0 _ _ ?_
  have hI := hI.p0 (j := 0) (v := 0) (by decide) (by decide) (by decide)
  refine s_areAsked (σ := (xput σ 0 0 0)) (a := a) (b := b) (kind := kind) hI.1  (fun r2 p2 => ?_)
  have p2 : (r2 = 1 ∧ (0 ≤ a ∧ a < (σ 2 1)) ∧ (0 ≤ b ∧ b < (σ 2 1)) ∧ (0 ≤ kind ∧ kind < (σ 2 0))) ∨ (r2 = 0 ∧ (0 : Int) ≤ 0) := p2
  refine And.intro (fun c3 => ?_) (fun c3 => ?_)
  · replace p2 : (0 : Int) ≤ 0 := by
      rcases p2 with q | q
      · exact absurd q.1 (by omega)
      · exact q.2
    refine And.intro rfl ?_
    exact hQ _ _ hI 
  · replace p2 : (0 ≤ a ∧ a < (σ 2 1)) ∧ (0 ≤ b ∧ b < (σ 2 1)) ∧ (0 ≤ kind ∧ kind < (σ 2 0)) := by
      rcases p2 with q | q
      · exact q.2
      · exact absurd q.1 (by omega)
    refine s_whyOf (σ := (xput σ 0 0 0)) (a := a) (b := b) (kind := kind) hI.1 (show 0 ≤ a ∧ a < (σ 2 1) from by omega) (show 0 ≤ kind ∧ kind < (σ 2 0) from by omega) (fun r4 p4 => ?_)
    have p4 : (r4 = 0 ∧ (σ 2 4) = a ∧ 1 ≤ σ 2 (60 + 13 * a + kind).toNat ∧ ¬ a = b) ∨ 1 ≤ r4 := p4
    refine And.intro rfl ?_
    exact hQ _ _ hI 
set_option maxHeartbeats 4000000 in
set_option maxRecDepth 100000 in
theorem s_hand {σ : xS} {k kind : Int} {Q : Option xV → xS → Prop} (hI : RI σ) (hQ : ∀ r : Int, ∀ σ' : xS, RK σ σ' → Q (some (xvi r)) σ') : xT kX11_hand [xvr 0, xvi k, xvi kind] σ Q := by
  refine ⟨Nat.le_of_ble_eq_true rfl, fun X hX => ?_⟩
  show X 0 [xvr 0, xvi k, xvi kind] σ
  have hI : RK σ σ := RK.rf hI
  have hb0 := hI.1.kinds; have hb1 := hI.1.persons
  refine hX 400 0 _ _ ?_
  refine s_isPerson (σ := σ) (k := k) hI.1  (fun r1 p1 => ?_)
  have p1 : (r1 = 1 ∧ 0 ≤ k ∧ k < (σ 2 1)) ∨ (r1 = 0 ∧ (k < 0 ∨ (σ 2 1) ≤ k)) := p1
  refine And.intro (fun c2 => ?_) (fun c2 => ?_)
  · replace p1 : (k < 0 ∨ (σ 2 1) ≤ k) := by
      rcases p1 with q | q
      · exact absurd q.1 (by omega)
      · exact q.2
    refine s_throwsIf (σ := σ) (is := 1) hI.1 (show 1 = 0 ∨ 1 = 1 from by omega) (fun r3 σ3 i3 p3 => ?_)
    have hI := hI.tr i3
    have hb0 : 0 ≤ (σ3 2 0) ∧ (σ3 2 0) ≤ 13 := hI.1.kinds; have hb1 : 0 ≤ (σ3 2 1) ∧ (σ3 2 1) ≤ 6 := hI.1.persons
    have p3 : r3 = 1 := p3
    refine And.intro (fun c4 => ?_) (fun c4 => ?_)
    · refine s_hand0 (σ := σ3) (k := k) (kind := kind) hI.1 (show 0 ≤ k ∧ k ≤ 5 from by omega) (show 0 ≤ kind ∧ kind ≤ 12 from by omega) (fun r5 p5 => ?_)
      have p5 : r5 = σ3 2 (60 + 13 * k + kind).toNat ∧ 0 ≤ r5 ∧ r5 ≤ 4 := p5
      refine And.intro rfl ?_
      exact hQ _ _ hI 
    · refine And.intro rfl ?_
      exact hQ _ _ hI 
  · replace p1 : 0 ≤ k ∧ k < (σ 2 1) := by
      rcases p1 with q | q
      · exact q.2
      · exact absurd q.1 (by omega)
    refine s_isKind (σ := σ) (k := kind) hI.1  (fun r6 p6 => ?_)
    have p6 : (r6 = 1 ∧ 0 ≤ kind ∧ kind < (σ 2 0)) ∨ (r6 = 0 ∧ (kind < 0 ∨ (σ 2 0) ≤ kind)) := p6
    refine And.intro (fun c7 => ?_) (fun c7 => ?_)
    · replace p6 : 0 ≤ kind ∧ kind < (σ 2 0) := by
        rcases p6 with q | q
        · exact q.2
        · exact absurd q.1 (by omega)
      refine s_throwsIf (σ := σ) (is := 0) hI.1 (show 0 = 0 ∨ 0 = 1 from by omega) (fun r8 σ8 i8 p8 => ?_)
      have hI := hI.tr i8
      have hb0 : 0 ≤ (σ8 2 0) ∧ (σ8 2 0) ≤ 13 := hI.1.kinds; have hb1 : 0 ≤ (σ8 2 1) ∧ (σ8 2 1) ≤ 6 := hI.1.persons
      have p8 : r8 = 0 := p8
      refine And.intro (fun c9 => ?_) (fun c9 => ?_)
      · refine s_hand0 (σ := σ8) (k := k) (kind := kind) hI.1 (show 0 ≤ k ∧ k ≤ 5 from by omega) (show 0 ≤ kind ∧ kind ≤ 12 from by omega) (fun r10 p10 => ?_)
        have p10 : r10 = σ8 2 (60 + 13 * k + kind).toNat ∧ 0 ≤ r10 ∧ r10 ≤ 4 := p10
        refine And.intro rfl ?_
        exact hQ _ _ hI 
      · refine And.intro rfl ?_
        exact hQ _ _ hI 
    · replace p6 : (kind < 0 ∨ (σ 2 0) ≤ kind) := by
        rcases p6 with q | q
        · exact absurd q.1 (by omega)
        · exact q.2
      refine s_throwsIf (σ := σ) (is := 1) hI.1 (show 1 = 0 ∨ 1 = 1 from by omega) (fun r11 σ11 i11 p11 => ?_)
      have hI := hI.tr i11
      have hb0 : 0 ≤ (σ11 2 0) ∧ (σ11 2 0) ≤ 13 := hI.1.kinds; have hb1 : 0 ≤ (σ11 2 1) ∧ (σ11 2 1) ≤ 6 := hI.1.persons
      have p11 : r11 = 1 := p11
      refine And.intro (fun c12 => ?_) (fun c12 => ?_)
      · refine s_hand0 (σ := σ11) (k := k) (kind := kind) hI.1 (show 0 ≤ k ∧ k ≤ 5 from by omega) (show 0 ≤ kind ∧ kind ≤ 12 from by omega) (fun r13 p13 => ?_)
        have p13 : r13 = σ11 2 (60 + 13 * k + kind).toNat ∧ 0 ≤ r13 ∧ r13 ≤ 4 := p13
        refine And.intro rfl ?_
        exact hQ _ _ hI 
      · refine And.intro rfl ?_
        exact hQ _ _ hI 
set_option maxHeartbeats 4000000 in
set_option maxRecDepth 100000 in
theorem s_inHands {σ : xS} {kind : Int} {Q : Option xV → xS → Prop} (hI : RI σ) (hp0 : 0 ≤ kind ∧ kind ≤ 12) (hQ : ∀ r : Int, Q (some (xvi r)) σ) : xT kX11_inHands [xvr 0, xvi kind] σ Q := by
  refine ⟨Nat.le_of_ble_eq_true rfl, fun X hX => ?_⟩
  show X 0 [xvr 0, xvi kind, xvu, xvu] σ
  have hI : RK σ σ := RK.rf hI
  have hb0 := hI.1.kinds; have hb1 := hI.1.persons
  refine hX 400 0 _ _ ?_
  refine And.intro (Nat.le_of_ble_eq_true rfl) ?_
  refine And.intro (Nat.le_of_ble_eq_true rfl) ?_
  have lp_4 : ∀ (m4 : Nat) (n : Int) (q : Int), ((σ 2 1 - q).toNat) = m4 → (0 ≤ q ∧ q ≤ σ 2 1) → X 4 [xvr 0, xvi kind, xvi n, xvi q] σ := by
    intro m4
    induction m4 using Nat.strongRecOn with
    | _ m4 ih_4 =>
    intro n q hm_4 hv_4
    refine hX 400 4 _ _ ?_
    refine And.intro (rfl) (And.intro (⟨by omega, by omega⟩) ?_)
    intro v2 e2 l2 h2
    have e2 : v2 = σ 2 1 := e2
    have rv2 : 0 ≤ (σ 2 1) ∧ (σ 2 1) ≤ 6 := hI.1.persons
    refine And.intro (fun c3 => ?_) (fun c3 => ?_)
    · refine And.intro rfl ?_
      exact hQ _ 
    · refine s_hand0 (σ := σ) (k := q) (kind := kind) hI.1 (show 0 ≤ q ∧ q ≤ 5 from by omega) (show 0 ≤ kind ∧ kind ≤ 12 from by omega) (fun r4 p4 => ?_)
      have p4 : r4 = σ 2 (60 + 13 * q + kind).toNat ∧ 0 ≤ r4 ∧ r4 ≤ 4 := p4
      intro z5 t5 e5 l5 h5
      try have w5 : t5 = 0 := by omega
      refine And.intro (Nat.le_of_ble_eq_true rfl) ?_
      intro z6 t6 e6 l6 h6
      try have w6 : t6 = 0 := by omega
      exact ih_4 _ (show (σ 2 1 - z6).toNat < m4 from by omega) z5 z6 rfl (show 0 ≤ z6 ∧ z6 ≤ σ 2 1 from by first | trivial | omega | (refine ⟨by assumption, ?_⟩; omega) | (refine ⟨?_, ?_⟩ <;> omega))
  exact lp_4 _ 0 0 rfl (show 0 ≤ 0 ∧ 0 ≤ σ 2 1 from by first | trivial | omega | (refine ⟨by assumption, ?_⟩; omega) | (refine ⟨?_, ?_⟩ <;> omega))
set_option maxHeartbeats 4000000 in
set_option maxRecDepth 100000 in
theorem s_gains {σ : xS} {k : Int} {Q : Option xV → xS → Prop} (hI : RI σ) (hQ : ∀ r : Int, ∀ σ' : xS, RK σ σ' → Q (some (xvi r)) σ') : xT kX11_gains [xvr 0, xvi k] σ Q := by
  refine ⟨Nat.le_of_ble_eq_true rfl, fun X hX => ?_⟩
  show X 0 [xvr 0, xvi k, xvu, xvu] σ
  have hI : RK σ σ := RK.rf hI
  have hb0 := hI.1.kinds; have hb1 := hI.1.persons
  refine hX 400 0 _ _ ?_
  have hI := hI.p0 (j := 0) (v := 0) (by decide) (by decide) (by decide)
  refine s_isPerson (σ := (xput σ 0 0 0)) (k := k) hI.1  (fun r2 p2 => ?_)
  have p2 : (r2 = 1 ∧ 0 ≤ k ∧ k < (σ 2 1)) ∨ (r2 = 0 ∧ (k < 0 ∨ (σ 2 1) ≤ k)) := p2
  refine And.intro (fun c3 => ?_) (fun c3 => ?_)
  · replace p2 : 0 ≤ k ∧ k < (σ 2 1) := by
      rcases p2 with q | q
      · exact q.2
      · exact absurd q.1 (by omega)
    refine s_booksOf (σ := (xput σ 0 0 0)) (k := k)  (fun r4 => ?_)
    refine And.intro (Nat.le_of_ble_eq_true rfl) ?_
    refine And.intro (Nat.le_of_ble_eq_true rfl) ?_
    have lp_23 : ∀ (m23 : Nat) (n : Int) (kind : Int), ((13 - kind).toNat) = m23 → (0 ≤ kind ∧ kind ≤ 13) → X 23 [xvr 0, xvi k, xvi n, xvi kind] (xput σ 0 0 0) := by
      intro m23
      induction m23 using Nat.strongRecOn with
      | _ m23 ih_23 =>
      intro n kind hm_23 hv_23
      refine hX 400 23 _ _ ?_
      refine And.intro (fun c6 => ?_) (fun c6 => ?_)
      · refine And.intro rfl ?_
        exact hQ _ _ hI 
      · refine s_hand0 (σ := (xput σ 0 0 0)) (k := k) (kind := kind) hI.1 (show 0 ≤ k ∧ k ≤ 5 from by omega) (show 0 ≤ kind ∧ kind ≤ 12 from by omega) (fun r7 p7 => ?_)
        have p7 : r7 = σ 2 (60 + 13 * k + kind).toNat ∧ 0 ≤ r7 ∧ r7 ≤ 4 := p7
        refine And.intro (fun c8 => ?_) (fun c8 => ?_)
        · intro z9 t9 e9 l9 h9
          try have w9 : t9 = 0 := by omega
          refine And.intro (Nat.le_of_ble_eq_true rfl) ?_
          intro z10 t10 e10 l10 h10
          try have w10 : t10 = 0 := by omega
          exact ih_23 _ (show (13 - z10).toNat < m23 from by omega) z9 z10 rfl (show 0 ≤ z10 ∧ z10 ≤ 13 from by first | trivial | omega | (refine ⟨by assumption, ?_⟩; omega) | (refine ⟨?_, ?_⟩ <;> omega))
        · refine s_inHands (σ := (xput σ 0 0 0)) (kind := kind) hI.1 (show 0 ≤ kind ∧ kind ≤ 12 from by omega) (fun r11 => ?_)
          refine And.intro (fun c12 => ?_) (fun c12 => ?_)
          · intro z13 t13 e13 l13 h13
            try have w13 : t13 = 0 := by omega
            refine And.intro (Nat.le_of_ble_eq_true rfl) ?_
            intro z14 t14 e14 l14 h14
            try have w14 : t14 = 0 := by omega
            exact ih_23 _ (show (13 - z14).toNat < m23 from by omega) z13 z14 rfl (show 0 ≤ z14 ∧ z14 ≤ 13 from by first | trivial | omega | (refine ⟨by assumption, ?_⟩; omega) | (refine ⟨?_, ?_⟩ <;> omega))
          · intro z15 t15 e15 l15 h15
            try have w15 : t15 = 0 := by omega
            refine And.intro (Nat.le_of_ble_eq_true rfl) ?_
            intro z16 t16 e16 l16 h16
            try have w16 : t16 = 0 := by omega
            exact ih_23 _ (show (13 - z16).toNat < m23 from by omega) z15 z16 rfl (show 0 ≤ z16 ∧ z16 ≤ 13 from by first | trivial | omega | (refine ⟨by assumption, ?_⟩; omega) | (refine ⟨?_, ?_⟩ <;> omega))
    exact lp_23 _ r4 0 rfl (show 0 ≤ 0 ∧ 0 ≤ 13 from by first | trivial | omega | (refine ⟨by assumption, ?_⟩; omega) | (refine ⟨?_, ?_⟩ <;> omega))
  · replace p2 : (k < 0 ∨ (σ 2 1) ≤ k) := by
      rcases p2 with q | q
      · exact absurd q.1 (by omega)
      · exact q.2
    refine And.intro rfl ?_
    exact hQ _ _ hI 
set_option maxHeartbeats 4000000 in
set_option maxRecDepth 100000 in
theorem s_leader {σ : xS} {Q : Option xV → xS → Prop} (hI : RI σ) (hQ : ∀ r : Int, ∀ σ' : xS, RK σ σ' → Q (some (xvi r)) σ') : xT kX11_leader [xvr 0] σ Q := by
  refine ⟨Nat.le_of_ble_eq_true rfl, fun X hX => ?_⟩
  show X 0 [xvr 0, xvu, xvu] σ
  have hI : RK σ σ := RK.rf hI
  have hb0 := hI.1.kinds; have hb1 := hI.1.persons
  refine hX 400 0 _ _ ?_
  have hI := hI.p0 (j := 0) (v := 0) (by decide) (by decide) (by decide)
  refine And.intro (Nat.le_of_ble_eq_true rfl) ?_
  refine And.intro (Nat.le_of_ble_eq_true rfl) ?_
  have lp_9 : ∀ (m9 : Nat) (best : Int) (k : Int), ((6 - k).toNat) = m9 → (0 ≤ k) → X 9 [xvr 0, xvi best, xvi k] (xput σ 0 0 0) := by
    intro m9
    induction m9 using Nat.strongRecOn with
    | _ m9 ih_9 =>
    intro best k hm_9 hv_9
    refine hX 400 9 _ _ ?_
    refine And.intro (rfl) (And.intro (⟨by omega, by omega⟩) ?_)
    intro v3 e3 l3 h3
    have e3 : v3 = σ 2 1 := e3
    have rv3 : 0 ≤ (σ 2 1) ∧ (σ 2 1) ≤ 6 := hI.1.persons
    refine And.intro (fun c4 => ?_) (fun c4 => ?_)
    · refine And.intro rfl ?_
      exact hQ _ _ hI 
    · refine And.intro (fun c5 => ?_) (fun c5 => ?_)
      · refine hX 400 36 _ _ ?_
        refine And.intro (Nat.le_of_ble_eq_true rfl) ?_
        refine hX 400 38 _ _ ?_
        intro z6 t6 e6 l6 h6
        try have w6 : t6 = 0 := by omega
        exact ih_9 _ (show (6 - z6).toNat < m9 from by omega) k z6 rfl (show 0 ≤ z6 from by first | trivial | omega | (refine ⟨by assumption, ?_⟩; omega) | (refine ⟨?_, ?_⟩ <;> omega))
      · refine s_booksOf (σ := (xput σ 0 0 0)) (k := k)  (fun r7 => ?_)
        refine s_booksOf (σ := (xput σ 0 0 0)) (k := best)  (fun r8 => ?_)
        refine And.intro (fun c9 => ?_) (fun c9 => ?_)
        · refine hX 400 38 _ _ ?_
          intro z10 t10 e10 l10 h10
          try have w10 : t10 = 0 := by omega
          exact ih_9 _ (show (6 - z10).toNat < m9 from by omega) best z10 rfl (show 0 ≤ z10 from by first | trivial | omega | (refine ⟨by assumption, ?_⟩; omega) | (refine ⟨?_, ?_⟩ <;> omega))
        · refine hX 400 36 _ _ ?_
          refine And.intro (Nat.le_of_ble_eq_true rfl) ?_
          refine hX 400 38 _ _ ?_
          intro z11 t11 e11 l11 h11
          try have w11 : t11 = 0 := by omega
          exact ih_9 _ (show (6 - z11).toNat < m9 from by omega) k z11 rfl (show 0 ≤ z11 from by first | trivial | omega | (refine ⟨by assumption, ?_⟩; omega) | (refine ⟨?_, ?_⟩ <;> omega))
  exact lp_9 _ (-1) 0 rfl (show 0 ≤ 0 from by first | trivial | omega | (refine ⟨by assumption, ?_⟩; omega) | (refine ⟨?_, ?_⟩ <;> omega))
set_option maxHeartbeats 4000000 in
set_option maxRecDepth 100000 in
theorem s_now {σ : xS} {what : Int} {Q : Option xV → xS → Prop} (hI : RI σ) (hQ : ∀ r : Int, ∀ σ' : xS, RK σ σ' → Q (some (xvi r)) σ') : xT kX11_now [xvr 0, xvi what] σ Q := by
  refine ⟨Nat.le_of_ble_eq_true rfl, fun X hX => ?_⟩
  show X 0 [xvr 0, xvi what, xvu, xvu] σ
  have hI : RK σ σ := RK.rf hI
  have hb0 := hI.1.kinds; have hb1 := hI.1.persons
  refine hX 400 0 _ _ ?_
  have hI := hI.p0 (j := 0) (v := 0) (by decide) (by decide) (by decide)
  refine And.intro (rfl) (And.intro (⟨by omega, by omega⟩) ?_)
  intro v2 e2 l2 h2
  have e2 : v2 = σ 2 7 := e2
  have rv2 : 0 ≤ (σ 2 7) ∧ (σ 2 7) ≤ 52 := hI.1.heaped
  refine And.intro (Nat.le_of_ble_eq_true rfl) ?_
  refine And.intro (Nat.le_of_ble_eq_true rfl) ?_
  have lp_15 : ∀ (m15 : Nat) (sum : Int) (k : Int), ((6 - k).toNat) = m15 → (0 ≤ k) → X 15 [xvr 0, xvi what, xvi sum, xvi k] (xput σ 0 0 0) := by
    intro m15
    induction m15 using Nat.strongRecOn with
    | _ m15 ih_15 =>
    intro sum k hm_15 hv_15
    refine hX 400 15 _ _ ?_
    refine And.intro (rfl) (And.intro (⟨by omega, by omega⟩) ?_)
    intro v4 e4 l4 h4
    have e4 : v4 = σ 2 1 := e4
    have rv4 : 0 ≤ (σ 2 1) ∧ (σ 2 1) ≤ 6 := hI.1.persons
    refine And.intro (fun c5 => ?_) (fun c5 => ?_)
    · refine And.intro (fun c6 => ?_) (And.intro rfl ?_)
      · refine And.intro rfl ?_
        exact hQ _ _ hI 
      refine And.intro (fun c6 => ?_) ?_
      · refine And.intro (rfl) (And.intro (⟨by omega, by omega⟩) ?_)
        intro v7 e7 l7 h7
        have e7 : v7 = σ 2 4 := e7
        have rv7 : -1 ≤ (σ 2 4) ∧ (σ 2 4) < (σ 2 1) := hI.1.turn
        refine And.intro rfl ?_
        exact hQ _ _ hI 
      refine And.intro (fun c6 => ?_) ?_
      · refine And.intro (rfl) (And.intro (⟨by omega, by omega⟩) ?_)
        intro v8 e8 l8 h8
        have e8 : v8 = σ 2 7 := e8
        have rv8 : 0 ≤ (σ 2 7) ∧ (σ 2 7) ≤ 52 := hI.1.heaped
        refine And.intro rfl ?_
        exact hQ _ _ hI 
      refine And.intro (fun c6 => ?_) ?_
      · refine And.intro (rfl) (And.intro (⟨by omega, by omega⟩) ?_)
        intro v9 e9 l9 h9
        have e9 : v9 = σ 2 5 := e9
        refine And.intro rfl ?_
        exact hQ _ _ hI 
      refine And.intro (fun c6 => ?_) ?_
      · refine s_allBooks (σ := (xput σ 0 0 0))   (fun r10 => ?_)
        refine And.intro rfl ?_
        exact hQ _ _ hI 
      refine And.intro (fun c6 => ?_) ?_
      · refine And.intro (rfl) (And.intro (⟨by omega, by omega⟩) ?_)
        intro v11 e11 l11 h11
        have e11 : v11 = σ 2 6 := e11
        have rv11 : 0 ≤ (σ 2 6) ∧ (σ 2 6) ≤ (σ 2 1) ∧ (¬ (σ 2 4) = -1 → (σ 2 6) < (σ 2 1)) := hI.1.vain
        refine And.intro rfl ?_
        exact hQ _ _ hI 
      refine And.intro (fun c6 => ?_) ?_
      · refine And.intro rfl ?_
        exact hQ _ _ hI 
      exact trivial
    · refine s_cards0 (σ := (xput σ 0 0 0)) (k := k) (show 0 ≤ k ∧ k ≤ 5 from by omega) (fun r12 => ?_)
      intro z13 t13 e13 l13 h13
      try have w13 : t13 = 0 := by omega
      refine And.intro (Nat.le_of_ble_eq_true rfl) ?_
      intro z14 t14 e14 l14 h14
      try have w14 : t14 = 0 := by omega
      exact ih_15 _ (show (6 - z14).toNat < m15 from by omega) z13 z14 rfl (show 0 ≤ z14 from by first | trivial | omega | (refine ⟨by assumption, ?_⟩; omega) | (refine ⟨?_, ?_⟩ <;> omega))
  exact lp_15 _ v2 0 rfl (show 0 ≤ 0 from by first | trivial | omega | (refine ⟨by assumption, ?_⟩; omega) | (refine ⟨?_, ?_⟩ <;> omega))
set_option maxHeartbeats 4000000 in
set_option maxRecDepth 100000 in
theorem s_person {σ : xS} {k what : Int} {Q : Option xV → xS → Prop} (hI : RI σ) (hQ : ∀ r : Int, ∀ σ' : xS, RK σ σ' → Q (some (xvi r)) σ') : xT kX11_person [xvr 0, xvi k, xvi what] σ Q := by
  refine ⟨Nat.le_of_ble_eq_true rfl, fun X hX => ?_⟩
  show X 0 [xvr 0, xvi k, xvi what, xvu, xvu] σ
  have hI : RK σ σ := RK.rf hI
  have hb0 := hI.1.kinds; have hb1 := hI.1.persons
  refine hX 400 0 _ _ ?_
  have hI := hI.p0 (j := 0) (v := 0) (by decide) (by decide) (by decide)
  refine s_isPerson (σ := (xput σ 0 0 0)) (k := k) hI.1  (fun r2 p2 => ?_)
  have p2 : (r2 = 1 ∧ 0 ≤ k ∧ k < (σ 2 1)) ∨ (r2 = 0 ∧ (k < 0 ∨ (σ 2 1) ≤ k)) := p2
  refine And.intro (fun c3 => ?_) (fun c3 => ?_)
  · replace p2 : 0 ≤ k ∧ k < (σ 2 1) := by
      rcases p2 with q | q
      · exact q.2
      · exact absurd q.1 (by omega)
    refine And.intro (Nat.le_of_ble_eq_true rfl) ?_
    refine And.intro (Nat.le_of_ble_eq_true rfl) ?_
    have lp_20 : ∀ (m20 : Nat) (set : Int) (kind : Int), ((13 - kind).toNat) = m20 → (0 ≤ kind ∧ kind ≤ 13) → X 20 [xvr 0, xvi k, xvi what, xvi set, xvi kind] (xput σ 0 0 0) := by
      intro m20
      induction m20 using Nat.strongRecOn with
      | _ m20 ih_20 =>
      intro set kind hm_20 hv_20
      refine hX 400 20 _ _ ?_
      refine And.intro (fun c5 => ?_) (fun c5 => ?_)
      · refine And.intro (fun c6 => ?_) (And.intro rfl ?_)
        · refine And.intro rfl ?_
          exact hQ _ _ hI 
        refine And.intro (fun c6 => ?_) ?_
        · refine s_cards0 (σ := (xput σ 0 0 0)) (k := k) (show 0 ≤ k ∧ k ≤ 5 from by omega) (fun r7 => ?_)
          refine And.intro rfl ?_
          exact hQ _ _ hI 
        refine And.intro (fun c6 => ?_) ?_
        · refine s_booksOf (σ := (xput σ 0 0 0)) (k := k)  (fun r8 => ?_)
          refine And.intro rfl ?_
          exact hQ _ _ hI 
        refine And.intro (fun c6 => ?_) ?_
        · refine And.intro rfl ?_
          exact hQ _ _ hI 
        refine And.intro (fun c6 => ?_) ?_
        · intro z9 t9 e9 l9 h9
          try have w9 : t9 = 0 := by omega
          refine And.intro (rfl) (And.intro (⟨by omega, by omega⟩) ?_)
          intro v10 e10 l10 h10
          have e10 : v10 = σ 2 z9.toNat := e10
          have rv10 : 0 ≤ σ 2 z9.toNat ∧ σ 2 z9.toNat ≤ 52 := hI.1.othI (z := z9) (by omega) (by omega)
          refine And.intro rfl ?_
          exact hQ _ _ hI 
        refine And.intro (fun c6 => ?_) ?_
        · intro z11 t11 e11 l11 h11
          try have w11 : t11 = 0 := by omega
          refine And.intro (rfl) (And.intro (⟨by omega, by omega⟩) ?_)
          intro v12 e12 l12 h12
          have e12 : v12 = σ 2 z11.toNat := e12
          refine And.intro rfl ?_
          exact hQ _ _ hI 
        refine And.intro (fun c6 => ?_) ?_
        · intro z13 t13 e13 l13 h13
          try have w13 : t13 = 0 := by omega
          refine And.intro (rfl) (And.intro (⟨by omega, by omega⟩) ?_)
          intro v14 e14 l14 h14
          have e14 : v14 = σ 2 z13.toNat := e14
          refine And.intro rfl ?_
          exact hQ _ _ hI 
        refine And.intro (fun c6 => ?_) ?_
        · intro z15 t15 e15 l15 h15
          try have w15 : t15 = 0 := by omega
          refine And.intro (rfl) (And.intro (⟨by omega, by omega⟩) ?_)
          intro v16 e16 l16 h16
          have e16 : v16 = σ 2 z15.toNat := e16
          refine And.intro rfl ?_
          exact hQ _ _ hI 
        refine And.intro (fun c6 => ?_) ?_
        · intro z17 t17 e17 l17 h17
          try have w17 : t17 = 0 := by omega
          refine And.intro (rfl) (And.intro (⟨by omega, by omega⟩) ?_)
          intro v18 e18 l18 h18
          have e18 : v18 = σ 2 z17.toNat := e18
          have rv18 : 0 ≤ σ 2 z17.toNat ∧ σ 2 z17.toNat ≤ 13 := hI.1.drewI (z := z17) (by omega) (by omega)
          intro z19 t19 e19 l19 h19
          try have w19 : t19 = 0 := by omega
          refine And.intro rfl ?_
          exact hQ _ _ hI 
        exact trivial
      · refine s_hand0 (σ := (xput σ 0 0 0)) (k := k) (kind := kind) hI.1 (show 0 ≤ k ∧ k ≤ 5 from by omega) (show 0 ≤ kind ∧ kind ≤ 12 from by omega) (fun r20 p20 => ?_)
        have p20 : r20 = σ 2 (60 + 13 * k + kind).toNat ∧ 0 ≤ r20 ∧ r20 ≤ 4 := p20
        refine And.intro (fun c21 => ?_) (fun c21 => ?_)
        · intro z22 e22 l22 h22
          refine And.intro (Nat.le_of_ble_eq_true rfl) ?_
          intro z23 t23 e23 l23 h23
          try have w23 : t23 = 0 := by omega
          exact ih_20 _ (show (13 - z23).toNat < m20 from by omega) z22 z23 rfl (show 0 ≤ z23 ∧ z23 ≤ 13 from by first | trivial | omega | (refine ⟨by assumption, ?_⟩; omega) | (refine ⟨?_, ?_⟩ <;> omega))
        · intro z24 e24 l24 h24
          intro z25 e25 l25 h25
          refine And.intro (Nat.le_of_ble_eq_true rfl) ?_
          intro z26 t26 e26 l26 h26
          try have w26 : t26 = 0 := by omega
          exact ih_20 _ (show (13 - z26).toNat < m20 from by omega) z25 z26 rfl (show 0 ≤ z26 ∧ z26 ≤ 13 from by first | trivial | omega | (refine ⟨by assumption, ?_⟩; omega) | (refine ⟨?_, ?_⟩ <;> omega))
    exact lp_20 _ 0 0 rfl (show 0 ≤ 0 ∧ 0 ≤ 13 from by first | trivial | omega | (refine ⟨by assumption, ?_⟩; omega) | (refine ⟨?_, ?_⟩ <;> omega))
  · replace p2 : (k < 0 ∨ (σ 2 1) ≤ k) := by
      rcases p2 with q | q
      · exact absurd q.1 (by omega)
      · exact q.2
    refine And.intro rfl ?_
    exact hQ _ _ hI 
set_option maxHeartbeats 4000000 in
set_option maxRecDepth 100000 in
theorem s_sureOf {σ : xS} {b kind : Int} {Q : Option xV → xS → Prop} (hI : RI σ) (hp0 : 0 ≤ b ∧ b ≤ 5) (hp1 : 0 ≤ kind ∧ kind ≤ 12) (hQ : ∀ r : Int, (0 ≤ r ∧ r ≤ 2) → Q (some (xvi r)) σ) : xT kX11_sureOf [xvr 0, xvi b, xvi kind] σ Q := by
  refine ⟨Nat.le_of_ble_eq_true rfl, fun X hX => ?_⟩
  show X 0 [xvr 0, xvi b, xvi kind, xvu] σ
  have hI : RK σ σ := RK.rf hI
  have hb0 := hI.1.kinds; have hb1 := hI.1.persons
  refine hX 400 0 _ _ ?_
  intro z1 t1 e1 l1 h1
  try have w1 : t1 = 0 := by omega
  intro z2 t2 e2 l2 h2
  try have w2 : t2 = 0 := by omega
  intro z3 t3 e3 l3 h3
  try have w3 : t3 = 0 := by omega
  refine And.intro (rfl) (And.intro (⟨by omega, by omega⟩) ?_)
  intro v4 e4 l4 h4
  have e4 : v4 = σ 2 z3.toNat := e4
  have rv4 : 0 ≤ σ 2 z3.toNat ∧ σ 2 z3.toNat ≤ 4 := hI.1.knI (z := z3) (by omega) (by omega)
  refine And.intro (fun c5 => ?_) (fun c5 => ?_)
  · refine And.intro (Nat.le_of_ble_eq_true rfl) ?_
    have lp_22 : ∀ (m22 : Nat) (i : Int), ((52 - i).toNat) = m22 → (0 ≤ i ∧ i ≤ 52) → X 22 [xvr 0, xvi b, xvi kind, xvi i] σ := by
      intro m22
      induction m22 using Nat.strongRecOn with
      | _ m22 ih_22 =>
      intro i hm_22 hv_22
      refine hX 400 22 _ _ ?_
      intro z7 t7 e7 l7 h7
      try have w7 : t7 = 0 := by omega
      refine And.intro (rfl) (And.intro (⟨by omega, by omega⟩) ?_)
      intro v8 e8 l8 h8
      have e8 : v8 = σ 2 z7.toNat := e8
      have rv8 : 0 ≤ σ 2 z7.toNat ∧ σ 2 z7.toNat ≤ 52 := hI.1.othI (z := z7) (by omega) (by omega)
      refine And.intro (fun c9 => ?_) (fun c9 => ?_)
      · refine And.intro rfl ?_
        exact hQ _ (show 0 ≤ 0 ∧ 0 ≤ 2 from by first | trivial | omega)
      · intro z10 t10 e10 l10 h10
        try have w10 : t10 = 0 := by omega
        intro z11 t11 e11 l11 h11
        try have w11 : t11 = 0 := by omega
        intro z12 t12 e12 l12 h12
        try have w12 : t12 = 0 := by omega
        refine And.intro (rfl) (And.intro (⟨by omega, by omega⟩) ?_)
        intro v13 e13 l13 h13
        have e13 : v13 = σ 2 z12.toNat := e13
        refine s_bitOf (σ := σ) (set := v13) (k := kind)  (fun r14 p14 => ?_)
        have p14 : r14 = 0 ∨ r14 = 1 := p14
        refine And.intro (fun c15 => ?_) (fun c15 => ?_)
        · intro z16 t16 e16 l16 h16
          try have w16 : t16 = 0 := by omega
          exact ih_22 _ (show (52 - z16).toNat < m22 from by omega) z16 rfl (show 0 ≤ z16 ∧ z16 ≤ 52 from by first | trivial | omega | (refine ⟨by assumption, ?_⟩; omega) | (refine ⟨?_, ?_⟩ <;> omega))
        · refine And.intro rfl ?_
          exact hQ _ (show 0 ≤ 1 ∧ 1 ≤ 2 from by first | trivial | omega)
    exact lp_22 _ 0 rfl (show 0 ≤ 0 ∧ 0 ≤ 52 from by first | trivial | omega | (refine ⟨by assumption, ?_⟩; omega) | (refine ⟨?_, ?_⟩ <;> omega))
  · refine And.intro rfl ?_
    exact hQ _ (show 0 ≤ 2 ∧ 2 ≤ 2 from by first | trivial | omega)
set_option maxHeartbeats 4000000 in
set_option maxRecDepth 100000 in
theorem s_nextWithCards {σ : xS} {a : Int} {Q : Option xV → xS → Prop} (hI : RI σ) (hp0 : 0 ≤ a ∧ a ≤ 5 ∧ 2 ≤ σ 2 1) (hQ : ∀ r : Int, (0 ≤ r ∧ r < σ 2 1) → Q (some (xvi r)) σ) : xT kX11_nextWithCards [xvr 0, xvi a] σ Q := by
  refine ⟨Nat.le_of_ble_eq_true rfl, fun X hX => ?_⟩
  show X 0 [xvr 0, xvi a, xvu] σ
  have hI : RK σ σ := RK.rf hI
  have hb0 := hI.1.kinds; have hb1 := hI.1.persons
  refine hX 400 0 _ _ ?_
  refine And.intro (Nat.le_of_ble_eq_true rfl) ?_
  have lp_2 : ∀ (m2 : Nat) (i : Int), ((6 - i).toNat) = m2 → (1 ≤ i ∧ i ≤ 6) → X 2 [xvr 0, xvi a, xvi i] σ := by
    intro m2
    induction m2 using Nat.strongRecOn with
    | _ m2 ih_2 =>
    intro i hm_2 hv_2
    refine hX 400 2 _ _ ?_
    refine And.intro (rfl) (And.intro (⟨by omega, by omega⟩) ?_)
    intro v2 e2 l2 h2
    have e2 : v2 = σ 2 1 := e2
    have rv2 : 0 ≤ (σ 2 1) ∧ (σ 2 1) ≤ 6 := hI.1.persons
    refine And.intro (fun c3 => ?_) (fun c3 => ?_)
    · intro z4 t4 e4 l4 h4
      try have w4 : t4 = 0 := by omega
      refine And.intro (rfl) (And.intro (⟨by omega, by omega⟩) ?_)
      intro v5 e5 l5 h5
      have e5 : v5 = σ 2 1 := e5
      have rv5 : 0 ≤ (σ 2 1) ∧ (σ 2 1) ≤ 6 := hI.1.persons
      refine And.intro (by omega) ?_
      intro z6 e6 f6 l6 h6
      have f6 := f6 (by omega) (by omega)
      have g6 := Int.emod_nonneg z4 (b := v5) (by omega); have k6 := Int.emod_lt_of_pos z4 (b := v5) (by omega); rw [← f6] at g6 k6
      refine And.intro rfl ?_
      exact hQ _ (show 0 ≤ z6 ∧ z6 < σ 2 1 from by first | trivial | omega)
    · intro z7 t7 e7 l7 h7
      try have w7 : t7 = 0 := by omega
      refine And.intro (rfl) (And.intro (⟨by omega, by omega⟩) ?_)
      intro v8 e8 l8 h8
      have e8 : v8 = σ 2 1 := e8
      have rv8 : 0 ≤ (σ 2 1) ∧ (σ 2 1) ≤ 6 := hI.1.persons
      refine And.intro (by omega) ?_
      intro z9 e9 f9 l9 h9
      have f9 := f9 (by omega) (by omega)
      have g9 := Int.emod_nonneg z7 (b := v8) (by omega); have k9 := Int.emod_lt_of_pos z7 (b := v8) (by omega); rw [← f9] at g9 k9
      refine s_cards0 (σ := σ) (k := z9) (show 0 ≤ z9 ∧ z9 ≤ 5 from by omega) (fun r10 => ?_)
      refine And.intro (fun c11 => ?_) (fun c11 => ?_)
      · intro z12 t12 e12 l12 h12
        try have w12 : t12 = 0 := by omega
        exact ih_2 _ (show (6 - z12).toNat < m2 from by omega) z12 rfl (show 1 ≤ z12 ∧ z12 ≤ 6 from by first | trivial | omega | (refine ⟨by assumption, ?_⟩; omega) | (refine ⟨?_, ?_⟩ <;> omega))
      · intro z13 t13 e13 l13 h13
        try have w13 : t13 = 0 := by omega
        refine And.intro (rfl) (And.intro (⟨by omega, by omega⟩) ?_)
        intro v14 e14 l14 h14
        have e14 : v14 = σ 2 1 := e14
        have rv14 : 0 ≤ (σ 2 1) ∧ (σ 2 1) ≤ 6 := hI.1.persons
        refine And.intro (by omega) ?_
        intro z15 e15 f15 l15 h15
        have f15 := f15 (by omega) (by omega)
        have g15 := Int.emod_nonneg z13 (b := v14) (by omega); have k15 := Int.emod_lt_of_pos z13 (b := v14) (by omega); rw [← f15] at g15 k15
        refine And.intro rfl ?_
        exact hQ _ (show 0 ≤ z15 ∧ z15 < σ 2 1 from by first | trivial | omega)
  exact lp_2 _ 1 rfl (show 1 ≤ 1 ∧ 1 ≤ 6 from by first | trivial | omega | (refine ⟨by assumption, ?_⟩; omega) | (refine ⟨?_, ?_⟩ <;> omega))
set_option maxHeartbeats 4000000 in
set_option maxRecDepth 100000 in
theorem s_octet {σ : xS} {k : Int} {Q : Option xV → xS → Prop} (hp0 : 0 ≤ k ∧ k < 940) (hQ : ∀ r : Int, (0 ≤ r ∧ r ≤ 255) → Q (some (xvi r)) σ) : xT kX11_octet [xvr 0, xvi k] σ Q := by
  refine ⟨Nat.le_of_ble_eq_true rfl, fun X hX => ?_⟩
  show X 0 [xvr 0, xvi k] σ
  refine hX 400 0 _ _ ?_
  refine And.intro (Or.inl rfl) (And.intro (⟨by omega, by omega⟩) ?_)
  intro v1 e1 l1 h1
  have e1 : v1 = σ 1 k.toNat := e1
  intro z2 e2 l2 h2
  have q2 := x255b v1; rw [← e2] at q2
  refine And.intro rfl ?_
  exact hQ _ (show 0 ≤ z2 ∧ z2 ≤ 255 from by first | trivial | omega)
set_option maxHeartbeats 4000000 in
set_option maxRecDepth 100000 in
theorem s_peek {σ : xS} {Q : Option xV → xS → Prop} (hp0 : 0 ≤ σ 0 4 ∧ σ 0 3 ≤ 940) (hQ : ∀ r : Int, (r = pkf σ ∧ -1 ≤ r ∧ r ≤ 255) → Q (some (xvi r)) σ) : xT kX11_peek [xvr 0] σ Q := by
  refine ⟨Nat.le_of_ble_eq_true rfl, fun X hX => ?_⟩
  show X 0 [xvr 0] σ
  refine hX 400 0 _ _ ?_
  intro v1 e1 l1 h1
  have e1 : v1 = σ 0 4 := e1
  intro v2 e2 l2 h2
  have e2 : v2 = σ 0 3 := e2
  refine And.intro (fun c3 => ?_) (fun c3 => ?_)
  · refine And.intro rfl ?_
    exact hQ _ ⟨by unfold pkf; rw [if_neg (by omega)], by omega⟩
  · intro v4 e4 l4 h4
    have e4 : v4 = σ 0 4 := e4
    refine And.intro (Or.inl rfl) (And.intro (⟨by omega, by omega⟩) ?_)
    intro v5 e5 l5 h5
    have e5 : v5 = σ 1 v4.toNat := e5
    intro z6 e6 l6 h6
    have q6 := x255b v5; rw [← e6] at q6
    refine And.intro rfl ?_
    exact hQ _ ⟨by unfold pkf; rw [if_pos (by omega)]; subst_vars; rfl, by omega⟩
set_option maxHeartbeats 4000000 in
set_option maxRecDepth 100000 in
theorem s_isName {σ : xS} {Q : Option xV → xS → Prop} (hQ : ∀ r : Int, ((r = 1 ∧ σ 0 11 = 1) ∨ (r = 0 ∧ (0 : Int) ≤ 0)) → Q (some (xvi r)) σ) : xT kX11_isName [xvr 0] σ Q := by
  refine ⟨Nat.le_of_ble_eq_true rfl, fun X hX => ?_⟩
  show X 0 [xvr 0, xvu, xvu] σ
  refine hX 400 0 _ _ ?_
  intro v1 e1 l1 h1
  have e1 : v1 = σ 0 11 := e1
  refine And.intro (fun c2 => ?_) (fun c2 => ?_)
  · refine And.intro (Nat.le_of_ble_eq_true rfl) ?_
    refine And.intro (Nat.le_of_ble_eq_true rfl) ?_
    have lp_16 : ∀ (m16 : Nat) (is : Int) (k : Int), ((19 - k).toNat) = m16 → ((0 ≤ k ∧ k ≤ 19) ∧ ((is = 1 ∧ σ 0 11 = 1) ∨ is = 0)) → X 16 [xvr 0, xvi is, xvi k] σ := by
      intro m16
      induction m16 using Nat.strongRecOn with
      | _ m16 ih_16 =>
      intro is k hm_16 hv_16
      refine hX 400 16 _ _ ?_
      refine And.intro (fun c4 => ?_) (fun c4 => ?_)
      · refine And.intro rfl ?_
        refine And.intro (by omega) ?_
        exact hQ _ (show (is = 1 ∧ σ 0 11 = 1) ∨ (is = 0 ∧ (0 : Int) ≤ 0) from by first | trivial | omega)
      · refine And.intro (fun c5 => ?_) (fun c5 => ?_)
        · refine hX 400 44 _ _ ?_
          refine And.intro (Nat.le_of_ble_eq_true rfl) ?_
          intro z6 t6 e6 l6 h6
          try have w6 : t6 = 0 := by omega
          exact ih_16 _ (show (19 - z6).toNat < m16 from by omega) 0 z6 rfl (show (0 ≤ z6 ∧ z6 ≤ 19) ∧ ((0 = 1 ∧ σ 0 11 = 1) ∨ 0 = 0) from by first | trivial | omega | (refine ⟨by assumption, ?_⟩; omega) | (refine ⟨?_, ?_⟩ <;> omega))
        · intro v7 e7 l7 h7
          have e7 : v7 = σ 0 17 := e7
          refine And.intro (rfl) (And.intro (⟨by omega, by omega⟩) ?_)
          intro v8 e8 l8 h8
          have e8 : v8 = σ 6 k.toNat := e8
          intro z9 a9 b9 c9 l9 h9
          refine And.intro (fun c10 => ?_) (fun c10 => ?_)
          · refine hX 400 44 _ _ ?_
            refine And.intro (Nat.le_of_ble_eq_true rfl) ?_
            intro z11 t11 e11 l11 h11
            try have w11 : t11 = 0 := by omega
            exact ih_16 _ (show (19 - z11).toNat < m16 from by omega) 0 z11 rfl (show (0 ≤ z11 ∧ z11 ≤ 19) ∧ ((0 = 1 ∧ σ 0 11 = 1) ∨ 0 = 0) from by first | trivial | omega | (refine ⟨by assumption, ?_⟩; omega) | (refine ⟨?_, ?_⟩ <;> omega))
          · refine And.intro (Nat.le_of_ble_eq_true rfl) ?_
            intro z12 t12 e12 l12 h12
            try have w12 : t12 = 0 := by omega
            exact ih_16 _ (show (19 - z12).toNat < m16 from by omega) 1 z12 rfl (show (0 ≤ z12 ∧ z12 ≤ 19) ∧ ((1 = 1 ∧ σ 0 11 = 1) ∨ 1 = 0) from by first | trivial | omega | (refine ⟨by assumption, ?_⟩; omega) | (refine ⟨?_, ?_⟩ <;> omega))
    exact lp_16 _ 0 0 rfl (show (0 ≤ 0 ∧ 0 ≤ 19) ∧ ((0 = 1 ∧ σ 0 11 = 1) ∨ 0 = 0) from by first | trivial | omega | (refine ⟨by assumption, ?_⟩; omega) | (refine ⟨?_, ?_⟩ <;> omega))
  · refine And.intro (Nat.le_of_ble_eq_true rfl) ?_
    refine And.intro (Nat.le_of_ble_eq_true rfl) ?_
    have lp_16 : ∀ (m16 : Nat) (is : Int) (k : Int), ((19 - k).toNat) = m16 → ((0 ≤ k ∧ k ≤ 19) ∧ ((is = 1 ∧ σ 0 11 = 1) ∨ is = 0)) → X 16 [xvr 0, xvi is, xvi k] σ := by
      intro m16
      induction m16 using Nat.strongRecOn with
      | _ m16 ih_16 =>
      intro is k hm_16 hv_16
      refine hX 400 16 _ _ ?_
      refine And.intro (fun c14 => ?_) (fun c14 => ?_)
      · refine And.intro rfl ?_
        refine And.intro (by omega) ?_
        exact hQ _ (show (is = 1 ∧ σ 0 11 = 1) ∨ (is = 0 ∧ (0 : Int) ≤ 0) from by first | trivial | omega)
      · refine And.intro (fun c15 => ?_) (fun c15 => ?_)
        · refine hX 400 44 _ _ ?_
          refine And.intro (Nat.le_of_ble_eq_true rfl) ?_
          intro z16 t16 e16 l16 h16
          try have w16 : t16 = 0 := by omega
          exact ih_16 _ (show (19 - z16).toNat < m16 from by omega) 0 z16 rfl (show (0 ≤ z16 ∧ z16 ≤ 19) ∧ ((0 = 1 ∧ σ 0 11 = 1) ∨ 0 = 0) from by first | trivial | omega | (refine ⟨by assumption, ?_⟩; omega) | (refine ⟨?_, ?_⟩ <;> omega))
        · intro v17 e17 l17 h17
          have e17 : v17 = σ 0 17 := e17
          refine And.intro (rfl) (And.intro (⟨by omega, by omega⟩) ?_)
          intro v18 e18 l18 h18
          have e18 : v18 = σ 6 k.toNat := e18
          intro z19 a19 b19 c19 l19 h19
          refine And.intro (fun c20 => ?_) (fun c20 => ?_)
          · refine hX 400 44 _ _ ?_
            refine And.intro (Nat.le_of_ble_eq_true rfl) ?_
            intro z21 t21 e21 l21 h21
            try have w21 : t21 = 0 := by omega
            exact ih_16 _ (show (19 - z21).toNat < m16 from by omega) 0 z21 rfl (show (0 ≤ z21 ∧ z21 ≤ 19) ∧ ((0 = 1 ∧ σ 0 11 = 1) ∨ 0 = 0) from by first | trivial | omega | (refine ⟨by assumption, ?_⟩; omega) | (refine ⟨?_, ?_⟩ <;> omega))
          · refine And.intro (Nat.le_of_ble_eq_true rfl) ?_
            intro z22 t22 e22 l22 h22
            try have w22 : t22 = 0 := by omega
            exact ih_16 _ (show (19 - z22).toNat < m16 from by omega) 1 z22 rfl (show (0 ≤ z22 ∧ z22 ≤ 19) ∧ ((1 = 1 ∧ σ 0 11 = 1) ∨ 1 = 0) from by first | trivial | omega | (refine ⟨by assumption, ?_⟩; omega) | (refine ⟨?_, ?_⟩ <;> omega))
    exact lp_16 _ 1 0 rfl (show (0 ≤ 0 ∧ 0 ≤ 19) ∧ ((1 = 1 ∧ σ 0 11 = 1) ∨ 1 = 0) from by first | trivial | omega | (refine ⟨by assumption, ?_⟩; omega) | (refine ⟨?_, ?_⟩ <;> omega))
set_option maxHeartbeats 4000000 in
set_option maxRecDepth 100000 in
theorem s_find {σ : xS} {from_ many : Int} {Q : Option xV → xS → Prop} (hp0 : (from_ = 0 ∨ from_ = 6) ∧ many ≤ 6) (hQ : ∀ r : Int, (-1 ≤ r ∧ (r = -1 ∨ r < many)) → Q (some (xvi r)) σ) : xT kX11_find [xvr 0, xvi from_, xvi many] σ Q := by
  refine ⟨Nat.le_of_ble_eq_true rfl, fun X hX => ?_⟩
  show X 0 [xvr 0, xvi from_, xvi many, xvu] σ
  refine hX 400 0 _ _ ?_
  refine And.intro (Nat.le_of_ble_eq_true rfl) ?_
  have lp_2 : ∀ (m2 : Nat) (k : Int), ((6 - k).toNat) = m2 → (0 ≤ k) → X 2 [xvr 0, xvi from_, xvi many, xvi k] σ := by
    intro m2
    induction m2 using Nat.strongRecOn with
    | _ m2 ih_2 =>
    intro k hm_2 hv_2
    refine hX 400 2 _ _ ?_
    refine And.intro (fun c2 => ?_) (fun c2 => ?_)
    · refine And.intro rfl ?_
      exact hQ _ (show -1 ≤ (-1) ∧ ((-1) = -1 ∨ (-1) < many) from by first | trivial | omega)
    · intro z3 t3 e3 l3 h3
      try have w3 : t3 = 0 := by omega
      refine And.intro (rfl) (And.intro (⟨by omega, by omega⟩) ?_)
      intro v4 e4 l4 h4
      have e4 : v4 = σ 5 z3.toNat := e4
      intro v5 e5 l5 h5
      have e5 : v5 = σ 0 17 := e5
      intro z6 a6 b6 c6 l6 h6
      refine And.intro (fun c7 => ?_) (fun c7 => ?_)
      · intro z8 t8 e8 l8 h8
        try have w8 : t8 = 0 := by omega
        exact ih_2 _ (show (6 - z8).toNat < m2 from by omega) z8 rfl (show 0 ≤ z8 from by first | trivial | omega | (refine ⟨by assumption, ?_⟩; omega) | (refine ⟨?_, ?_⟩ <;> omega))
      · refine And.intro rfl ?_
        exact hQ _ (show -1 ≤ k ∧ (k = -1 ∨ k < many) from by first | trivial | omega)
  exact lp_2 _ 0 rfl (show 0 ≤ 0 from by first | trivial | omega | (refine ⟨by assumption, ?_⟩; omega) | (refine ⟨?_, ?_⟩ <;> omega))
set_option maxHeartbeats 4000000 in
set_option maxRecDepth 100000 in
theorem s_next {σ : xS} {Q : Option xV → xS → Prop} (hp0 : 0 ≤ σ 0 4 ∧ σ 0 4 ≤ σ 0 3 ∧ σ 0 3 ≤ 940) (hQ : ∀ σ' : xS, Fr [] [4, 11, 12, 13, 14, 17] σ σ' → (σ' 0 3 = σ 0 3 ∧ σ 0 4 ≤ σ' 0 4 ∧ σ' 0 4 ≤ σ' 0 3 ∧ (0 ≤ σ' 0 11 ∧ σ' 0 11 ≤ 4) ∧ (1 ≤ σ' 0 11 ∧ σ' 0 11 ≤ 3 → σ 0 4 < σ' 0 4 ∧ 0 ≤ σ' 0 14)) → Q none σ') : xT kX11_next [xvr 0] σ Q := by
  refine ⟨Nat.le_of_ble_eq_true rfl, fun X hX => ?_⟩
  show X 0 [xvr 0, xvu, xvu, xvu] σ
  have hF : Fr [] [4, 11, 12, 13, 14, 17] σ σ := Fr.rf
  
  have lp_0 : ∀ (m0 : Nat) (s1 : xS), ((s1 0 3 - s1 0 4).toNat) = m0 → (Fr [] [4, 11, 12, 13, 14, 17] σ s1 ∧ (s1 0 3 = σ 0 3 ∧ σ 0 4 ≤ s1 0 4 ∧ s1 0 4 ≤ s1 0 3)) → X 0 [xvr 0, xvu, xvu, xvu] s1 := by
    intro m0
    induction m0 using Nat.strongRecOn with
    | _ m0 ih_0 =>
    intro s1 hm_0 hv_0
    obtain ⟨hF, hv_0⟩ := hv_0
    refine hX 400 0 _ _ ?_
    have lp_18 : ∀ (_ : Unit), (s1 0 4 < s1 0 3) → X 18 [xvr 0, xvu, xvu, xvu] s1 := by
      intro _ hv_18
      refine hX 400 18 _ _ ?_
      intro v3 e3 l3 h3
      have e3 : v3 = s1 0 4 := e3
      intro z4 t4 e4 l4 h4
      try have w4 : t4 = 0 := by omega
      have hF := hF.p (j := 4) (v := z4) (by decide)
      exact ih_0 _ (show ((s1 0 3) - (z4)).toNat < m0 from by omega) (xput s1 0 4 z4) rfl (show Fr [] [4, 11, 12, 13, 14, 17] σ (xput s1 0 4 z4) ∧ ((s1 0 3) = σ 0 3 ∧ σ 0 4 ≤ (z4) ∧ (z4) ≤ (s1 0 3)) from by first | trivial | omega | (refine ⟨by assumption, ?_⟩; omega) | (refine ⟨?_, ?_⟩ <;> omega))
    refine s_peek (σ := s1)  (show 0 ≤ (s1 0 4) ∧ (s1 0 3) ≤ 940 from by omega) (fun r6 p6 => ?_)
    have p6 : r6 = pkf s1 ∧ -1 ≤ r6 ∧ r6 ≤ 255 := p6
    refine And.intro (fun c7 => ?_) (fun c7 => ?_)
    · exact lp_18 () (show s1 0 4 < s1 0 3 from by have q := pkf_r s1; omega)
    · refine s_peek (σ := s1)  (show 0 ≤ (s1 0 4) ∧ (s1 0 3) ≤ 940 from by omega) (fun r8 p8 => ?_)
      have p8 : r8 = pkf s1 ∧ -1 ≤ r8 ∧ r8 ≤ 255 := p8
      refine And.intro (fun c9 => ?_) (fun c9 => ?_)
      · intro v10 e10 l10 h10
        have e10 : v10 = s1 0 4 := e10
        have hF := hF.p (j := 12) (v := v10) (by decide)
        have hF := hF.p (j := 13) (v := 0) (by decide)
        have lp_80 : ∀ (_ : Unit), (True) → X 80 [xvr 0, xvu, xvu, xvu] (xput (xput s1 0 12 v10) 0 13 0) := by
          intro _ hv_80
          refine hX 400 80 _ _ ?_
          refine s_peek (σ := (xput (xput s1 0 12 v10) 0 13 0))  (show 0 ≤ (s1 0 4) ∧ (s1 0 3) ≤ 940 from by omega) (fun r14 p14 => ?_)
          have p14 : r14 = pkf (xput (xput s1 0 12 v10) 0 13 0) ∧ -1 ≤ r14 ∧ r14 ≤ 255 := p14
          refine And.intro (Nat.le_of_ble_eq_true rfl) ?_
          show xw _ _ _ _ _ _ _ _ _ _ [xvr 0, xvi r14, xvu, xvu] _ _
          refine And.intro (fun c15 => ?_) (fun c15 => ?_)
          · have lp_164 : ∀ (_ : Unit), (48 ≤ r14 ∧ (97 ≤ r14 ∧ r14 ≤ 122 ∨ r14 ≤ 57)) → X 164 [xvr 0, xvi r14, xvu, xvu] (xput (xput s1 0 12 v10) 0 13 0) := by
              intro _ hv_164
              refine hX 400 164 _ _ ?_
              refine s_isSmall (σ := (xput (xput s1 0 12 v10) 0 13 0)) (c := r14)  (fun r17 p17 => ?_)
              have p17 : (r17 = 1 ∧ 97 ≤ r14 ∧ r14 ≤ 122) ∨ (r17 = 0 ∧ (r14 < 97 ∨ 122 < r14)) := p17
              refine And.intro (Nat.le_of_ble_eq_true rfl) ?_
              show xw _ _ _ _ _ _ _ _ _ _ [xvr 0, xvi r14, xvi r17, xvu] _ _
              refine And.intro (Nat.le_of_ble_eq_true rfl) ?_
              show xw _ _ _ _ _ _ _ _ _ _ [xvr 0, xvi r14, xvi r17, xvi 1] _ _
              have hF := hF.p (j := 17) (v := 0) (by decide)
              have hF := hF.p (j := 14) (v := 0) (by decide)
              have lp_181 : ∀ (m181 : Nat) (all : Int) (s2 : xS), ((s2 0 3 - s2 0 4).toNat) = m181 → (Fr [] [4, 11, 12, 13, 14, 17] σ s2 ∧ (s2 0 3 = σ 0 3 ∧ s2 0 4 ≤ s2 0 3 ∧ 0 ≤ s2 0 14 ∧ 0 ≤ s2 0 13 ∧ σ 0 4 + s2 0 13 ≤ s2 0 4) ∧ nb (s2 0 13) (s2 0 14) ∧ sp0 (s2 0 13) (pkf s2)) → X 181 [xvr 0, xvi r14, xvi r17, xvi all] s2 := by
                intro m181
                induction m181 using Nat.strongRecOn with
                | _ m181 ih_181 =>
                intro all s2 hm_181 hv_181
                obtain ⟨hF, hv_181, hN, hZ⟩ := hv_181
                refine hX 400 181 _ _ ?_
                have lp_201 : ∀ (_ : Unit), (s2 0 4 < s2 0 3 ∧ 48 ≤ pkf s2 ∧ pkf s2 ≤ 122) → X 201 [xvr 0, xvi r14, xvi r17, xvi all] s2 := by
                  intro _ hv_201
                  refine hX 400 201 _ _ ?_
                  refine And.intro (fun c22 => ?_) (fun c22 => ?_)
                  · refine hX 400 220 _ _ ?_
                    refine And.intro (Nat.le_of_ble_eq_true rfl) ?_
                    show xw _ _ _ _ _ _ _ _ _ _ [xvr 0, xvi r14, xvi r17, xvi 0] _ _
                    have lp_248 : ∀ (s6 : xS), (Fr [] [4, 11, 12, 13, 14, 17] σ s6 ∧ (s6 0 3 = σ 0 3 ∧ s6 0 4 ≤ s6 0 3 ∧ 0 ≤ s6 0 14 ∧ 0 ≤ s6 0 13 ∧ σ 0 4 + s6 0 13 ≤ s6 0 4) ∧ (s6 0 4 < s6 0 3 ∧ s6 0 4 = s2 0 4) ∧ pkf s6 = pkf s2 ∧ nb (s6 0 13) (s6 0 14)) → X 248 [xvr 0, xvi r14, xvi r17, xvi 0] s6 := by
                      intro s6 hv_248
                      obtain ⟨hF, hv_248, hlt, hpk, hN⟩ := hv_248
                      refine hX 400 248 _ _ ?_
                      have lp_275 : ∀ (s7 : xS), (Fr [] [4, 11, 12, 13, 14, 17] σ s7 ∧ (s7 0 3 = σ 0 3 ∧ s7 0 4 = s2 0 4 ∧ s7 0 4 < s7 0 3 ∧ 0 ≤ s7 0 14 ∧ 0 ≤ s7 0 13 ∧ σ 0 4 + s7 0 13 ≤ s7 0 4) ∧ nb (s7 0 13 + 1) (s7 0 14)) → X 275 [xvr 0, xvi r14, xvi r17, xvi 0] s7 := by
                        intro s7 hv_275
                        obtain ⟨hF, hv_275, hN⟩ := hv_275
                        refine hX 400 275 _ _ ?_
                        intro v25 e25 l25 h25
                        have e25 : v25 = s7 0 13 := e25
                        intro z26 t26 e26 l26 h26
                        try have w26 : t26 = 0 := by omega
                        have hF := hF.p (j := 13) (v := z26) (by decide)
                        intro v28 e28 l28 h28
                        have e28 : v28 = s7 0 4 := e28
                        intro z29 t29 e29 l29 h29
                        try have w29 : t29 = 0 := by omega
                        have hF := hF.p (j := 4) (v := z29) (by decide)
                        exact ih_181 _ (show ((s7 0 3) - (z29)).toNat < m181 from by omega) 0 (xput (xput s7 0 13 z26) 0 4 z29) rfl (show Fr [] [4, 11, 12, 13, 14, 17] σ (xput (xput s7 0 13 z26) 0 4 z29) ∧ ((s7 0 3) = σ 0 3 ∧ (z29) ≤ (s7 0 3) ∧ 0 ≤ (s7 0 14) ∧ 0 ≤ (z26) ∧ σ 0 4 + (z26) ≤ (z29)) ∧ nb ((z26)) ((s7 0 14)) ∧ sp0 ((z26)) (pkf (xput (xput s7 0 13 z26) 0 4 z29)) from by (refine ⟨hF, ?_⟩; and_intros) <;> (first | assumption | rfl | omega | exact pkf_eq rfl rfl rfl | (unfold nb at hN; omega) | (intro hz; omega) | (unfold nb at hN; intro hz; omega) | (intro hz; exfalso; omega)))
                      intro v31 e31 l31 h31
                      have e31 : v31 = s6 0 13 := e31
                      refine And.intro (fun c32 => ?_) (fun c32 => ?_)
                      · exact lp_275 s6 (show Fr [] [4, 11, 12, 13, 14, 17] σ s6 ∧ ((s6 0 3) = σ 0 3 ∧ (s6 0 4) = s2 0 4 ∧ (s6 0 4) < (s6 0 3) ∧ 0 ≤ (s6 0 14) ∧ 0 ≤ (s6 0 13) ∧ σ 0 4 + (s6 0 13) ≤ (s6 0 4)) ∧ nb ((s6 0 13) + 1) ((s6 0 14)) from by (refine ⟨hF, ?_⟩; and_intros) <;> (first | assumption | rfl | omega | exact pkf_eq rfl rfl rfl | (unfold nb at hN; omega) | (intro hz; omega) | (unfold nb at hN; intro hz; omega) | (intro hz; exfalso; omega)))
                      · intro v33 e33 l33 h33
                        have e33 : v33 = s6 0 14 := e33
                        have hN2 : v33 ≤ 4000 := by unfold nb at hN; omega
                        intro z34 t34 e34 l34 h34
                        try have w34 : t34 = 0 := by omega
                        refine s_peek (σ := s6)  (show 0 ≤ (s6 0 4) ∧ (s6 0 3) ≤ 940 from by omega) (fun r35 p35 => ?_)
                        have p35 : r35 = pkf s6 ∧ -1 ≤ r35 ∧ r35 ≤ 255 := p35
                        intro z36 t36 e36 l36 h36
                        try have w36 : t36 = 0 := by omega
                        intro z37 t37 e37 l37 h37
                        try have w37 : t37 = 0 := by omega
                        have hF := hF.p (j := 14) (v := z37) (by decide)
                        exact lp_275 (xput s6 0 14 z37) (show Fr [] [4, 11, 12, 13, 14, 17] σ (xput s6 0 14 z37) ∧ ((s6 0 3) = σ 0 3 ∧ (s6 0 4) = s2 0 4 ∧ (s6 0 4) < (s6 0 3) ∧ 0 ≤ (z37) ∧ 0 ≤ (s6 0 13) ∧ σ 0 4 + (s6 0 13) ≤ (s6 0 4)) ∧ nb ((s6 0 13) + 1) ((z37)) from by (refine ⟨hF, ?_⟩; and_intros) <;> (first | assumption | rfl | omega | exact pkf_eq rfl rfl rfl | (unfold nb at hN; omega) | (intro hz; omega) | (unfold nb at hN; intro hz; omega) | (intro hz; exfalso; omega)))
                    intro v39 e39 l39 h39
                    have e39 : v39 = s2 0 13 := e39
                    refine And.intro (fun c40 => ?_) (fun c40 => ?_)
                    · exact lp_248 s2 (show Fr [] [4, 11, 12, 13, 14, 17] σ s2 ∧ ((s2 0 3) = σ 0 3 ∧ (s2 0 4) ≤ (s2 0 3) ∧ 0 ≤ (s2 0 14) ∧ 0 ≤ (s2 0 13) ∧ σ 0 4 + (s2 0 13) ≤ (s2 0 4)) ∧ ((s2 0 4) < (s2 0 3) ∧ (s2 0 4) = s2 0 4) ∧ pkf s2 = pkf s2 ∧ nb ((s2 0 13)) ((s2 0 14)) from by (refine ⟨hF, ?_⟩; and_intros) <;> (first | assumption | rfl | omega | exact pkf_eq rfl rfl rfl | (unfold nb at hN; omega) | (intro hz; omega) | (unfold nb at hN; intro hz; omega) | (intro hz; exfalso; omega)))
                    · intro v41 e41 l41 h41
                      have e41 : v41 = s2 0 17 := e41
                      intro z42 e42 l42 h42
                      refine s_peek (σ := s2)  (show 0 ≤ (s2 0 4) ∧ (s2 0 3) ≤ 940 from by omega) (fun r43 p43 => ?_)
                      have p43 : r43 = pkf s2 ∧ -1 ≤ r43 ∧ r43 ≤ 255 := p43
                      intro z44 e44 l44 h44
                      have hF := hF.p (j := 17) (v := z44) (by decide)
                      exact lp_248 (xput s2 0 17 z44) (show Fr [] [4, 11, 12, 13, 14, 17] σ (xput s2 0 17 z44) ∧ ((s2 0 3) = σ 0 3 ∧ (s2 0 4) ≤ (s2 0 3) ∧ 0 ≤ (s2 0 14) ∧ 0 ≤ (s2 0 13) ∧ σ 0 4 + (s2 0 13) ≤ (s2 0 4)) ∧ ((s2 0 4) < (s2 0 3) ∧ (s2 0 4) = s2 0 4) ∧ pkf (xput s2 0 17 z44) = pkf s2 ∧ nb ((s2 0 13)) ((s2 0 14)) from by (refine ⟨hF, ?_⟩; and_intros) <;> (first | assumption | rfl | omega | exact pkf_eq rfl rfl rfl | (unfold nb at hN; omega) | (intro hz; omega) | (unfold nb at hN; intro hz; omega) | (intro hz; exfalso; omega)))
                  · refine s_peek (σ := s2)  (show 0 ≤ (s2 0 4) ∧ (s2 0 3) ≤ 940 from by omega) (fun r46 p46 => ?_)
                    have p46 : r46 = pkf s2 ∧ -1 ≤ r46 ∧ r46 ≤ 255 := p46
                    refine s_isSmall (σ := s2) (c := r46)  (fun r47 p47 => ?_)
                    have p47 : (r47 = 1 ∧ 97 ≤ r46 ∧ r46 ≤ 122) ∨ (r47 = 0 ∧ (r46 < 97 ∨ 122 < r46)) := p47
                    refine And.intro (fun c48 => ?_) (fun c48 => ?_)
                    · refine hX 400 220 _ _ ?_
                      refine And.intro (Nat.le_of_ble_eq_true rfl) ?_
                      show xw _ _ _ _ _ _ _ _ _ _ [xvr 0, xvi r14, xvi r17, xvi 0] _ _
                      have lp_248 : ∀ (s6 : xS), (Fr [] [4, 11, 12, 13, 14, 17] σ s6 ∧ (s6 0 3 = σ 0 3 ∧ s6 0 4 ≤ s6 0 3 ∧ 0 ≤ s6 0 14 ∧ 0 ≤ s6 0 13 ∧ σ 0 4 + s6 0 13 ≤ s6 0 4) ∧ (s6 0 4 < s6 0 3 ∧ s6 0 4 = s2 0 4) ∧ pkf s6 = pkf s2 ∧ nb (s6 0 13) (s6 0 14)) → X 248 [xvr 0, xvi r14, xvi r17, xvi 0] s6 := by
                        intro s6 hv_248
                        obtain ⟨hF, hv_248, hlt, hpk, hN⟩ := hv_248
                        refine hX 400 248 _ _ ?_
                        have lp_275 : ∀ (s7 : xS), (Fr [] [4, 11, 12, 13, 14, 17] σ s7 ∧ (s7 0 3 = σ 0 3 ∧ s7 0 4 = s2 0 4 ∧ s7 0 4 < s7 0 3 ∧ 0 ≤ s7 0 14 ∧ 0 ≤ s7 0 13 ∧ σ 0 4 + s7 0 13 ≤ s7 0 4) ∧ nb (s7 0 13 + 1) (s7 0 14)) → X 275 [xvr 0, xvi r14, xvi r17, xvi 0] s7 := by
                          intro s7 hv_275
                          obtain ⟨hF, hv_275, hN⟩ := hv_275
                          refine hX 400 275 _ _ ?_
                          intro v51 e51 l51 h51
                          have e51 : v51 = s7 0 13 := e51
                          intro z52 t52 e52 l52 h52
                          try have w52 : t52 = 0 := by omega
                          have hF := hF.p (j := 13) (v := z52) (by decide)
                          intro v54 e54 l54 h54
                          have e54 : v54 = s7 0 4 := e54
                          intro z55 t55 e55 l55 h55
                          try have w55 : t55 = 0 := by omega
                          have hF := hF.p (j := 4) (v := z55) (by decide)
                          exact ih_181 _ (show ((s7 0 3) - (z55)).toNat < m181 from by omega) 0 (xput (xput s7 0 13 z52) 0 4 z55) rfl (show Fr [] [4, 11, 12, 13, 14, 17] σ (xput (xput s7 0 13 z52) 0 4 z55) ∧ ((s7 0 3) = σ 0 3 ∧ (z55) ≤ (s7 0 3) ∧ 0 ≤ (s7 0 14) ∧ 0 ≤ (z52) ∧ σ 0 4 + (z52) ≤ (z55)) ∧ nb ((z52)) ((s7 0 14)) ∧ sp0 ((z52)) (pkf (xput (xput s7 0 13 z52) 0 4 z55)) from by (refine ⟨hF, ?_⟩; and_intros) <;> (first | assumption | rfl | omega | exact pkf_eq rfl rfl rfl | (unfold nb at hN; omega) | (intro hz; omega) | (unfold nb at hN; intro hz; omega) | (intro hz; exfalso; omega)))
                        intro v57 e57 l57 h57
                        have e57 : v57 = s6 0 13 := e57
                        refine And.intro (fun c58 => ?_) (fun c58 => ?_)
                        · exact lp_275 s6 (show Fr [] [4, 11, 12, 13, 14, 17] σ s6 ∧ ((s6 0 3) = σ 0 3 ∧ (s6 0 4) = s2 0 4 ∧ (s6 0 4) < (s6 0 3) ∧ 0 ≤ (s6 0 14) ∧ 0 ≤ (s6 0 13) ∧ σ 0 4 + (s6 0 13) ≤ (s6 0 4)) ∧ nb ((s6 0 13) + 1) ((s6 0 14)) from by (refine ⟨hF, ?_⟩; and_intros) <;> (first | assumption | rfl | omega | exact pkf_eq rfl rfl rfl | (unfold nb at hN; omega) | (intro hz; omega) | (unfold nb at hN; intro hz; omega) | (intro hz; exfalso; omega)))
                        · intro v59 e59 l59 h59
                          have e59 : v59 = s6 0 14 := e59
                          have hN2 : v59 ≤ 4000 := by unfold nb at hN; omega
                          intro z60 t60 e60 l60 h60
                          try have w60 : t60 = 0 := by omega
                          refine s_peek (σ := s6)  (show 0 ≤ (s6 0 4) ∧ (s6 0 3) ≤ 940 from by omega) (fun r61 p61 => ?_)
                          have p61 : r61 = pkf s6 ∧ -1 ≤ r61 ∧ r61 ≤ 255 := p61
                          intro z62 t62 e62 l62 h62
                          try have w62 : t62 = 0 := by omega
                          intro z63 t63 e63 l63 h63
                          try have w63 : t63 = 0 := by omega
                          have hF := hF.p (j := 14) (v := z63) (by decide)
                          exact lp_275 (xput s6 0 14 z63) (show Fr [] [4, 11, 12, 13, 14, 17] σ (xput s6 0 14 z63) ∧ ((s6 0 3) = σ 0 3 ∧ (s6 0 4) = s2 0 4 ∧ (s6 0 4) < (s6 0 3) ∧ 0 ≤ (z63) ∧ 0 ≤ (s6 0 13) ∧ σ 0 4 + (s6 0 13) ≤ (s6 0 4)) ∧ nb ((s6 0 13) + 1) ((z63)) from by (refine ⟨hF, ?_⟩; and_intros) <;> (first | assumption | rfl | omega | exact pkf_eq rfl rfl rfl | (unfold nb at hN; omega) | (intro hz; omega) | (unfold nb at hN; intro hz; omega) | (intro hz; exfalso; omega)))
                      intro v65 e65 l65 h65
                      have e65 : v65 = s2 0 13 := e65
                      refine And.intro (fun c66 => ?_) (fun c66 => ?_)
                      · exact lp_248 s2 (show Fr [] [4, 11, 12, 13, 14, 17] σ s2 ∧ ((s2 0 3) = σ 0 3 ∧ (s2 0 4) ≤ (s2 0 3) ∧ 0 ≤ (s2 0 14) ∧ 0 ≤ (s2 0 13) ∧ σ 0 4 + (s2 0 13) ≤ (s2 0 4)) ∧ ((s2 0 4) < (s2 0 3) ∧ (s2 0 4) = s2 0 4) ∧ pkf s2 = pkf s2 ∧ nb ((s2 0 13)) ((s2 0 14)) from by (refine ⟨hF, ?_⟩; and_intros) <;> (first | assumption | rfl | omega | exact pkf_eq rfl rfl rfl | (unfold nb at hN; omega) | (intro hz; omega) | (unfold nb at hN; intro hz; omega) | (intro hz; exfalso; omega)))
                      · intro v67 e67 l67 h67
                        have e67 : v67 = s2 0 17 := e67
                        intro z68 e68 l68 h68
                        refine s_peek (σ := s2)  (show 0 ≤ (s2 0 4) ∧ (s2 0 3) ≤ 940 from by omega) (fun r69 p69 => ?_)
                        have p69 : r69 = pkf s2 ∧ -1 ≤ r69 ∧ r69 ≤ 255 := p69
                        intro z70 e70 l70 h70
                        have hF := hF.p (j := 17) (v := z70) (by decide)
                        exact lp_248 (xput s2 0 17 z70) (show Fr [] [4, 11, 12, 13, 14, 17] σ (xput s2 0 17 z70) ∧ ((s2 0 3) = σ 0 3 ∧ (s2 0 4) ≤ (s2 0 3) ∧ 0 ≤ (s2 0 14) ∧ 0 ≤ (s2 0 13) ∧ σ 0 4 + (s2 0 13) ≤ (s2 0 4)) ∧ ((s2 0 4) < (s2 0 3) ∧ (s2 0 4) = s2 0 4) ∧ pkf (xput s2 0 17 z70) = pkf s2 ∧ nb ((s2 0 13)) ((s2 0 14)) from by (refine ⟨hF, ?_⟩; and_intros) <;> (first | assumption | rfl | omega | exact pkf_eq rfl rfl rfl | (unfold nb at hN; omega) | (intro hz; omega) | (unfold nb at hN; intro hz; omega) | (intro hz; exfalso; omega)))
                    · refine And.intro (Nat.le_of_ble_eq_true rfl) ?_
                      show xw _ _ _ _ _ _ _ _ _ _ [xvr 0, xvi r14, xvi r17, xvi 1] _ _
                      have lp_248 : ∀ (s6 : xS), (Fr [] [4, 11, 12, 13, 14, 17] σ s6 ∧ (s6 0 3 = σ 0 3 ∧ s6 0 4 ≤ s6 0 3 ∧ 0 ≤ s6 0 14 ∧ 0 ≤ s6 0 13 ∧ σ 0 4 + s6 0 13 ≤ s6 0 4) ∧ (s6 0 4 < s6 0 3 ∧ s6 0 4 = s2 0 4) ∧ pkf s6 = pkf s2 ∧ nb (s6 0 13) (s6 0 14)) → X 248 [xvr 0, xvi r14, xvi r17, xvi 1] s6 := by
                        intro s6 hv_248
                        obtain ⟨hF, hv_248, hlt, hpk, hN⟩ := hv_248
                        refine hX 400 248 _ _ ?_
                        have lp_275 : ∀ (s7 : xS), (Fr [] [4, 11, 12, 13, 14, 17] σ s7 ∧ (s7 0 3 = σ 0 3 ∧ s7 0 4 = s2 0 4 ∧ s7 0 4 < s7 0 3 ∧ 0 ≤ s7 0 14 ∧ 0 ≤ s7 0 13 ∧ σ 0 4 + s7 0 13 ≤ s7 0 4) ∧ nb (s7 0 13 + 1) (s7 0 14)) → X 275 [xvr 0, xvi r14, xvi r17, xvi 1] s7 := by
                          intro s7 hv_275
                          obtain ⟨hF, hv_275, hN⟩ := hv_275
                          refine hX 400 275 _ _ ?_
                          intro v74 e74 l74 h74
                          have e74 : v74 = s7 0 13 := e74
                          intro z75 t75 e75 l75 h75
                          try have w75 : t75 = 0 := by omega
                          have hF := hF.p (j := 13) (v := z75) (by decide)
                          intro v77 e77 l77 h77
                          have e77 : v77 = s7 0 4 := e77
                          intro z78 t78 e78 l78 h78
                          try have w78 : t78 = 0 := by omega
                          have hF := hF.p (j := 4) (v := z78) (by decide)
                          exact ih_181 _ (show ((s7 0 3) - (z78)).toNat < m181 from by omega) 1 (xput (xput s7 0 13 z75) 0 4 z78) rfl (show Fr [] [4, 11, 12, 13, 14, 17] σ (xput (xput s7 0 13 z75) 0 4 z78) ∧ ((s7 0 3) = σ 0 3 ∧ (z78) ≤ (s7 0 3) ∧ 0 ≤ (s7 0 14) ∧ 0 ≤ (z75) ∧ σ 0 4 + (z75) ≤ (z78)) ∧ nb ((z75)) ((s7 0 14)) ∧ sp0 ((z75)) (pkf (xput (xput s7 0 13 z75) 0 4 z78)) from by (refine ⟨hF, ?_⟩; and_intros) <;> (first | assumption | rfl | omega | exact pkf_eq rfl rfl rfl | (unfold nb at hN; omega) | (intro hz; omega) | (unfold nb at hN; intro hz; omega) | (intro hz; exfalso; omega)))
                        intro v80 e80 l80 h80
                        have e80 : v80 = s6 0 13 := e80
                        refine And.intro (fun c81 => ?_) (fun c81 => ?_)
                        · exact lp_275 s6 (show Fr [] [4, 11, 12, 13, 14, 17] σ s6 ∧ ((s6 0 3) = σ 0 3 ∧ (s6 0 4) = s2 0 4 ∧ (s6 0 4) < (s6 0 3) ∧ 0 ≤ (s6 0 14) ∧ 0 ≤ (s6 0 13) ∧ σ 0 4 + (s6 0 13) ≤ (s6 0 4)) ∧ nb ((s6 0 13) + 1) ((s6 0 14)) from by (refine ⟨hF, ?_⟩; and_intros) <;> (first | assumption | rfl | omega | exact pkf_eq rfl rfl rfl | (unfold nb at hN; omega) | (intro hz; omega) | (unfold nb at hN; intro hz; omega) | (intro hz; exfalso; omega)))
                        · intro v82 e82 l82 h82
                          have e82 : v82 = s6 0 14 := e82
                          have hN2 : v82 ≤ 4000 := by unfold nb at hN; omega
                          intro z83 t83 e83 l83 h83
                          try have w83 : t83 = 0 := by omega
                          refine s_peek (σ := s6)  (show 0 ≤ (s6 0 4) ∧ (s6 0 3) ≤ 940 from by omega) (fun r84 p84 => ?_)
                          have p84 : r84 = pkf s6 ∧ -1 ≤ r84 ∧ r84 ≤ 255 := p84
                          intro z85 t85 e85 l85 h85
                          try have w85 : t85 = 0 := by omega
                          intro z86 t86 e86 l86 h86
                          try have w86 : t86 = 0 := by omega
                          have hF := hF.p (j := 14) (v := z86) (by decide)
                          exact lp_275 (xput s6 0 14 z86) (show Fr [] [4, 11, 12, 13, 14, 17] σ (xput s6 0 14 z86) ∧ ((s6 0 3) = σ 0 3 ∧ (s6 0 4) = s2 0 4 ∧ (s6 0 4) < (s6 0 3) ∧ 0 ≤ (z86) ∧ 0 ≤ (s6 0 13) ∧ σ 0 4 + (s6 0 13) ≤ (s6 0 4)) ∧ nb ((s6 0 13) + 1) ((z86)) from by (refine ⟨hF, ?_⟩; and_intros) <;> (first | assumption | rfl | omega | exact pkf_eq rfl rfl rfl | (unfold nb at hN; omega) | (intro hz; omega) | (unfold nb at hN; intro hz; omega) | (intro hz; exfalso; omega)))
                      intro v88 e88 l88 h88
                      have e88 : v88 = s2 0 13 := e88
                      refine And.intro (fun c89 => ?_) (fun c89 => ?_)
                      · exact lp_248 s2 (show Fr [] [4, 11, 12, 13, 14, 17] σ s2 ∧ ((s2 0 3) = σ 0 3 ∧ (s2 0 4) ≤ (s2 0 3) ∧ 0 ≤ (s2 0 14) ∧ 0 ≤ (s2 0 13) ∧ σ 0 4 + (s2 0 13) ≤ (s2 0 4)) ∧ ((s2 0 4) < (s2 0 3) ∧ (s2 0 4) = s2 0 4) ∧ pkf s2 = pkf s2 ∧ nb ((s2 0 13)) ((s2 0 14)) from by (refine ⟨hF, ?_⟩; and_intros) <;> (first | assumption | rfl | omega | exact pkf_eq rfl rfl rfl | (unfold nb at hN; omega) | (intro hz; omega) | (unfold nb at hN; intro hz; omega) | (intro hz; exfalso; omega)))
                      · intro v90 e90 l90 h90
                        have e90 : v90 = s2 0 17 := e90
                        intro z91 e91 l91 h91
                        refine s_peek (σ := s2)  (show 0 ≤ (s2 0 4) ∧ (s2 0 3) ≤ 940 from by omega) (fun r92 p92 => ?_)
                        have p92 : r92 = pkf s2 ∧ -1 ≤ r92 ∧ r92 ≤ 255 := p92
                        intro z93 e93 l93 h93
                        have hF := hF.p (j := 17) (v := z93) (by decide)
                        exact lp_248 (xput s2 0 17 z93) (show Fr [] [4, 11, 12, 13, 14, 17] σ (xput s2 0 17 z93) ∧ ((s2 0 3) = σ 0 3 ∧ (s2 0 4) ≤ (s2 0 3) ∧ 0 ≤ (s2 0 14) ∧ 0 ≤ (s2 0 13) ∧ σ 0 4 + (s2 0 13) ≤ (s2 0 4)) ∧ ((s2 0 4) < (s2 0 3) ∧ (s2 0 4) = s2 0 4) ∧ pkf (xput s2 0 17 z93) = pkf s2 ∧ nb ((s2 0 13)) ((s2 0 14)) from by (refine ⟨hF, ?_⟩; and_intros) <;> (first | assumption | rfl | omega | exact pkf_eq rfl rfl rfl | (unfold nb at hN; omega) | (intro hz; omega) | (unfold nb at hN; intro hz; omega) | (intro hz; exfalso; omega)))
                refine s_peek (σ := s2)  (show 0 ≤ (s2 0 4) ∧ (s2 0 3) ≤ 940 from by omega) (fun r95 p95 => ?_)
                have p95 : r95 = pkf s2 ∧ -1 ≤ r95 ∧ r95 ≤ 255 := p95
                refine s_isSmall (σ := s2) (c := r95)  (fun r96 p96 => ?_)
                have p96 : (r96 = 1 ∧ 97 ≤ r95 ∧ r95 ≤ 122) ∨ (r96 = 0 ∧ (r95 < 97 ∨ 122 < r95)) := p96
                refine And.intro (fun c97 => ?_) (fun c97 => ?_)
                · replace p96 : 97 ≤ r95 ∧ r95 ≤ 122 := by
                    rcases p96 with q | q
                    · exact q.2
                    · exact absurd q.1 (by omega)
                  exact lp_201 () (show s2 0 4 < s2 0 3 ∧ 48 ≤ pkf s2 ∧ pkf s2 ≤ 122 from by have q := pkf_r s2; omega)
                · replace p96 : (r95 < 97 ∨ 122 < r95) := by
                    rcases p96 with q | q
                    · exact absurd q.1 (by omega)
                    · exact q.2
                  refine s_peek (σ := s2)  (show 0 ≤ (s2 0 4) ∧ (s2 0 3) ≤ 940 from by omega) (fun r98 p98 => ?_)
                  have p98 : r98 = pkf s2 ∧ -1 ≤ r98 ∧ r98 ≤ 255 := p98
                  refine s_isDigit (σ := s2) (c := r98)  (fun r99 p99 => ?_)
                  have p99 : (r99 = 1 ∧ 48 ≤ r98 ∧ r98 ≤ 57) ∨ (r99 = 0 ∧ (r98 < 48 ∨ 57 < r98)) := p99
                  refine And.intro (fun c100 => ?_) (fun c100 => ?_)
                  · replace p99 : (r98 < 48 ∨ 57 < r98) := by
                      rcases p99 with q | q
                      · exact absurd q.1 (by omega)
                      · exact q.2
                    have hsp : ¬ s2 0 13 = 0 := fun h0 => by have h9 := hZ h0; omega
                    refine And.intro (fun c101 => ?_) (fun c101 => ?_)
                    · have hF := hF.p (j := 11) (v := 4) (by decide)
                      refine And.intro rfl (And.intro rfl ?_)
                      exact hQ _ hF (show (s2 0 3) = σ 0 3 ∧ σ 0 4 ≤ (s2 0 4) ∧ (s2 0 4) ≤ (s2 0 3) ∧ (0 ≤ (4) ∧ (4) ≤ 4) ∧ (1 ≤ (4) ∧ (4) ≤ 3 → σ 0 4 < (s2 0 4) ∧ 0 ≤ (s2 0 14)) from by first | trivial | omega)
                    · intro v103 e103 l103 h103
                      have e103 : v103 = s2 0 13 := e103
                      refine And.intro (fun c104 => ?_) (fun c104 => ?_)
                      · replace p17 : (r14 < 97 ∨ 122 < r14) := by
                          rcases p17 with q | q
                          · exact absurd q.1 (by omega)
                          · exact q.2
                        refine And.intro (fun c105 => ?_) (fun c105 => ?_)
                        · refine And.intro (fun c106 => ?_) (fun c106 => ?_)
                          · have hF := hF.p (j := 11) (v := 2) (by decide)
                            refine And.intro rfl (And.intro rfl ?_)
                            exact hQ _ hF (show (s2 0 3) = σ 0 3 ∧ σ 0 4 ≤ (s2 0 4) ∧ (s2 0 4) ≤ (s2 0 3) ∧ (0 ≤ (2) ∧ (2) ≤ 4) ∧ (1 ≤ (2) ∧ (2) ≤ 3 → σ 0 4 < (s2 0 4) ∧ 0 ≤ (s2 0 14)) from by first | trivial | omega)
                          · have hF := hF.p (j := 11) (v := 1) (by decide)
                            refine And.intro rfl (And.intro rfl ?_)
                            exact hQ _ hF (show (s2 0 3) = σ 0 3 ∧ σ 0 4 ≤ (s2 0 4) ∧ (s2 0 4) ≤ (s2 0 3) ∧ (0 ≤ (1) ∧ (1) ≤ 4) ∧ (1 ≤ (1) ∧ (1) ≤ 3 → σ 0 4 < (s2 0 4) ∧ 0 ≤ (s2 0 14)) from by first | trivial | omega)
                        · have hF := hF.p (j := 11) (v := 4) (by decide)
                          refine And.intro rfl (And.intro rfl ?_)
                          exact hQ _ hF (show (s2 0 3) = σ 0 3 ∧ σ 0 4 ≤ (s2 0 4) ∧ (s2 0 4) ≤ (s2 0 3) ∧ (0 ≤ (4) ∧ (4) ≤ 4) ∧ (1 ≤ (4) ∧ (4) ≤ 3 → σ 0 4 < (s2 0 4) ∧ 0 ≤ (s2 0 14)) from by first | trivial | omega)
                      · replace p17 : 97 ≤ r14 ∧ r14 ≤ 122 := by
                          rcases p17 with q | q
                          · exact q.2
                          · exact absurd q.1 (by omega)
                        refine And.intro (fun c110 => ?_) (fun c110 => ?_)
                        · refine And.intro (fun c111 => ?_) (fun c111 => ?_)
                          · have hF := hF.p (j := 11) (v := 2) (by decide)
                            refine And.intro rfl (And.intro rfl ?_)
                            exact hQ _ hF (show (s2 0 3) = σ 0 3 ∧ σ 0 4 ≤ (s2 0 4) ∧ (s2 0 4) ≤ (s2 0 3) ∧ (0 ≤ (2) ∧ (2) ≤ 4) ∧ (1 ≤ (2) ∧ (2) ≤ 3 → σ 0 4 < (s2 0 4) ∧ 0 ≤ (s2 0 14)) from by first | trivial | omega)
                          · have hF := hF.p (j := 11) (v := 1) (by decide)
                            refine And.intro rfl (And.intro rfl ?_)
                            exact hQ _ hF (show (s2 0 3) = σ 0 3 ∧ σ 0 4 ≤ (s2 0 4) ∧ (s2 0 4) ≤ (s2 0 3) ∧ (0 ≤ (1) ∧ (1) ≤ 4) ∧ (1 ≤ (1) ∧ (1) ≤ 3 → σ 0 4 < (s2 0 4) ∧ 0 ≤ (s2 0 14)) from by first | trivial | omega)
                        · have hF := hF.p (j := 11) (v := 4) (by decide)
                          refine And.intro rfl (And.intro rfl ?_)
                          exact hQ _ hF (show (s2 0 3) = σ 0 3 ∧ σ 0 4 ≤ (s2 0 4) ∧ (s2 0 4) ≤ (s2 0 3) ∧ (0 ≤ (4) ∧ (4) ≤ 4) ∧ (1 ≤ (4) ∧ (4) ≤ 3 → σ 0 4 < (s2 0 4) ∧ 0 ≤ (s2 0 14)) from by first | trivial | omega)
                  · replace p99 : 48 ≤ r98 ∧ r98 ≤ 57 := by
                      rcases p99 with q | q
                      · exact q.2
                      · exact absurd q.1 (by omega)
                    exact lp_201 () (show s2 0 4 < s2 0 3 ∧ 48 ≤ pkf s2 ∧ pkf s2 ≤ 122 from by have q := pkf_r s2; omega)
              exact lp_181 _ 1 (xput (xput (xput (xput s1 0 12 v10) 0 13 0) 0 17 0) 0 14 0) rfl ⟨hF, (show s1 0 3 = σ 0 3 ∧ s1 0 4 ≤ s1 0 3 ∧ (0 : Int) ≤ 0 ∧ (0 : Int) ≤ 0 ∧ σ 0 4 + 0 ≤ s1 0 4 from by omega), ⟨fun _ => rfl, fun _ => (show (0 : Int) ≤ 300 from by omega), fun _ => (show (0 : Int) ≤ 4000 from by omega)⟩, (fun _ => by have hq : pkf (xput (xput (xput (xput s1 0 12 v10) 0 13 0) 0 17 0) 0 14 0) = pkf (xput (xput s1 0 12 v10) 0 13 0) := pkf_eq rfl rfl rfl; rw [hq, ← p14.1]; exact hv_164)⟩
            have hlt : s1 0 4 < s1 0 3 := by have q : (s1 0 4 < s1 0 3 ∧ 0 ≤ pkf (xput (xput s1 0 12 v10) 0 13 0) ∧ pkf (xput (xput s1 0 12 v10) 0 13 0) ≤ 255) ∨ (s1 0 3 ≤ s1 0 4 ∧ pkf (xput (xput s1 0 12 v10) 0 13 0) = -1) := pkf_r (xput (xput s1 0 12 v10) 0 13 0); omega
            refine s_isSmall (σ := (xput (xput s1 0 12 v10) 0 13 0)) (c := r14)  (fun r115 p115 => ?_)
            have p115 : (r115 = 1 ∧ 97 ≤ r14 ∧ r14 ≤ 122) ∨ (r115 = 0 ∧ (r14 < 97 ∨ 122 < r14)) := p115
            refine And.intro (fun c116 => ?_) (fun c116 => ?_)
            · replace p115 : 97 ≤ r14 ∧ r14 ≤ 122 := by
                rcases p115 with q | q
                · exact q.2
                · exact absurd q.1 (by omega)
              exact lp_164 () (show 48 ≤ r14 ∧ (97 ≤ r14 ∧ r14 ≤ 122 ∨ r14 ≤ 57) from by first | trivial | omega | (refine ⟨by assumption, ?_⟩; omega) | (refine ⟨?_, ?_⟩ <;> omega))
            · replace p115 : (r14 < 97 ∨ 122 < r14) := by
                rcases p115 with q | q
                · exact absurd q.1 (by omega)
                · exact q.2
              refine s_isDigit (σ := (xput (xput s1 0 12 v10) 0 13 0)) (c := r14)  (fun r117 p117 => ?_)
              have p117 : (r117 = 1 ∧ 48 ≤ r14 ∧ r14 ≤ 57) ∨ (r117 = 0 ∧ (r14 < 48 ∨ 57 < r14)) := p117
              refine And.intro (fun c118 => ?_) (fun c118 => ?_)
              · replace p117 : 48 ≤ r14 ∧ r14 ≤ 57 := by
                  rcases p117 with q | q
                  · exact q.2
                  · exact absurd q.1 (by omega)
                exact lp_164 () (show 48 ≤ r14 ∧ (97 ≤ r14 ∧ r14 ≤ 122 ∨ r14 ≤ 57) from by first | trivial | omega | (refine ⟨by assumption, ?_⟩; omega) | (refine ⟨?_, ?_⟩ <;> omega))
              · replace p117 : (r14 < 48 ∨ 57 < r14) := by
                  rcases p117 with q | q
                  · exact absurd q.1 (by omega)
                  · exact q.2
                refine And.intro (fun c119 => ?_) (fun c119 => ?_)
                · have hF := hF.p (j := 11) (v := 3) (by decide)
                  have hF := hF.p (j := 14) (v := r14) (by decide)
                  intro v122 e122 l122 h122
                  have e122 : v122 = s1 0 4 := e122
                  intro z123 t123 e123 l123 h123
                  try have w123 : t123 = 0 := by omega
                  have hF := hF.p (j := 4) (v := z123) (by decide)
                  refine And.intro rfl (And.intro rfl ?_)
                  exact hQ _ hF (show (s1 0 3) = σ 0 3 ∧ σ 0 4 ≤ (z123) ∧ (z123) ≤ (s1 0 3) ∧ (0 ≤ (3) ∧ (3) ≤ 4) ∧ (1 ≤ (3) ∧ (3) ≤ 3 → σ 0 4 < (z123) ∧ 0 ≤ (r14)) from by first | trivial | omega)
                · refine And.intro (fun c125 => ?_) (fun c125 => ?_)
                  · have hF := hF.p (j := 11) (v := 3) (by decide)
                    have hF := hF.p (j := 14) (v := r14) (by decide)
                    intro v128 e128 l128 h128
                    have e128 : v128 = s1 0 4 := e128
                    intro z129 t129 e129 l129 h129
                    try have w129 : t129 = 0 := by omega
                    have hF := hF.p (j := 4) (v := z129) (by decide)
                    refine And.intro rfl (And.intro rfl ?_)
                    exact hQ _ hF (show (s1 0 3) = σ 0 3 ∧ σ 0 4 ≤ (z129) ∧ (z129) ≤ (s1 0 3) ∧ (0 ≤ (3) ∧ (3) ≤ 4) ∧ (1 ≤ (3) ∧ (3) ≤ 3 → σ 0 4 < (z129) ∧ 0 ≤ (r14)) from by first | trivial | omega)
                  · refine And.intro (fun c131 => ?_) (fun c131 => ?_)
                    · have hF := hF.p (j := 11) (v := 3) (by decide)
                      have hF := hF.p (j := 14) (v := r14) (by decide)
                      intro v134 e134 l134 h134
                      have e134 : v134 = s1 0 4 := e134
                      intro z135 t135 e135 l135 h135
                      try have w135 : t135 = 0 := by omega
                      have hF := hF.p (j := 4) (v := z135) (by decide)
                      refine And.intro rfl (And.intro rfl ?_)
                      exact hQ _ hF (show (s1 0 3) = σ 0 3 ∧ σ 0 4 ≤ (z135) ∧ (z135) ≤ (s1 0 3) ∧ (0 ≤ (3) ∧ (3) ≤ 4) ∧ (1 ≤ (3) ∧ (3) ≤ 3 → σ 0 4 < (z135) ∧ 0 ≤ (r14)) from by first | trivial | omega)
                    · refine And.intro (fun c137 => ?_) (fun c137 => ?_)
                      · have hF := hF.p (j := 11) (v := 4) (by decide)
                        have hF := hF.p (j := 14) (v := r14) (by decide)
                        intro v140 e140 l140 h140
                        have e140 : v140 = s1 0 4 := e140
                        intro z141 t141 e141 l141 h141
                        try have w141 : t141 = 0 := by omega
                        have hF := hF.p (j := 4) (v := z141) (by decide)
                        refine And.intro rfl (And.intro rfl ?_)
                        exact hQ _ hF (show (s1 0 3) = σ 0 3 ∧ σ 0 4 ≤ (z141) ∧ (z141) ≤ (s1 0 3) ∧ (0 ≤ (4) ∧ (4) ≤ 4) ∧ (1 ≤ (4) ∧ (4) ≤ 3 → σ 0 4 < (z141) ∧ 0 ≤ (r14)) from by first | trivial | omega)
                      · refine And.intro (fun c143 => ?_) (fun c143 => ?_)
                        · have hF := hF.p (j := 11) (v := 4) (by decide)
                          have hF := hF.p (j := 14) (v := r14) (by decide)
                          intro v146 e146 l146 h146
                          have e146 : v146 = s1 0 4 := e146
                          intro z147 t147 e147 l147 h147
                          try have w147 : t147 = 0 := by omega
                          have hF := hF.p (j := 4) (v := z147) (by decide)
                          refine And.intro rfl (And.intro rfl ?_)
                          exact hQ _ hF (show (s1 0 3) = σ 0 3 ∧ σ 0 4 ≤ (z147) ∧ (z147) ≤ (s1 0 3) ∧ (0 ≤ (4) ∧ (4) ≤ 4) ∧ (1 ≤ (4) ∧ (4) ≤ 3 → σ 0 4 < (z147) ∧ 0 ≤ (r14)) from by first | trivial | omega)
                        · have hF := hF.p (j := 11) (v := 3) (by decide)
                          have hF := hF.p (j := 14) (v := r14) (by decide)
                          intro v151 e151 l151 h151
                          have e151 : v151 = s1 0 4 := e151
                          intro z152 t152 e152 l152 h152
                          try have w152 : t152 = 0 := by omega
                          have hF := hF.p (j := 4) (v := z152) (by decide)
                          refine And.intro rfl (And.intro rfl ?_)
                          exact hQ _ hF (show (s1 0 3) = σ 0 3 ∧ σ 0 4 ≤ (z152) ∧ (z152) ≤ (s1 0 3) ∧ (0 ≤ (3) ∧ (3) ≤ 4) ∧ (1 ≤ (3) ∧ (3) ≤ 3 → σ 0 4 < (z152) ∧ 0 ≤ (r14)) from by first | trivial | omega)
          · have hF := hF.p (j := 11) (v := 0) (by decide)
            refine And.intro rfl (And.intro rfl ?_)
            exact hQ _ hF (show (s1 0 3) = σ 0 3 ∧ σ 0 4 ≤ (s1 0 4) ∧ (s1 0 4) ≤ (s1 0 3) ∧ (0 ≤ (0) ∧ (0) ≤ 4) ∧ (1 ≤ (0) ∧ (0) ≤ 3 → σ 0 4 < (s1 0 4) ∧ 0 ≤ (s1 0 14)) from by first | trivial | omega)
        intro v155 e155 l155 h155
        have e155 : v155 = s1 0 3 := e155
        intro v156 e156 l156 h156
        have e156 : v156 = s1 0 5 := e156
        refine And.intro (fun c157 => ?_) (fun c157 => ?_)
        · exact lp_80 () (show True from by first | trivial | omega | (refine ⟨by assumption, ?_⟩; omega) | (refine ⟨?_, ?_⟩ <;> omega))
        · intro v158 e158 l158 h158
          have e158 : v158 = s1 0 4 := e158
          intro v159 e159 l159 h159
          have e159 : v159 = s1 0 5 := e159
          refine And.intro (fun c160 => ?_) (fun c160 => ?_)
          · exact lp_80 () (show True from by first | trivial | omega | (refine ⟨by assumption, ?_⟩; omega) | (refine ⟨?_, ?_⟩ <;> omega))
          · intro v161 e161 l161 h161
            have e161 : v161 = s1 0 5 := e161
            have hF := hF.p (j := 12) (v := v161) (by decide)
            have hF := hF.p (j := 11) (v := 4) (by decide)
            refine And.intro rfl (And.intro rfl ?_)
            exact hQ _ hF (show (s1 0 3) = σ 0 3 ∧ σ 0 4 ≤ (s1 0 4) ∧ (s1 0 4) ≤ (s1 0 3) ∧ (0 ≤ (4) ∧ (4) ≤ 4) ∧ (1 ≤ (4) ∧ (4) ≤ 3 → σ 0 4 < (s1 0 4) ∧ 0 ≤ (s1 0 14)) from by first | trivial | omega)
      · exact lp_18 () (show s1 0 4 < s1 0 3 from by have q := pkf_r s1; omega)
  exact lp_0 _ σ rfl (show Fr [] [4, 11, 12, 13, 14, 17] σ σ ∧ ((σ 0 3) = σ 0 3 ∧ σ 0 4 ≤ (σ 0 4) ∧ (σ 0 4) ≤ (σ 0 3)) from by first | trivial | omega | (refine ⟨by assumption, ?_⟩; omega) | (refine ⟨?_, ?_⟩ <;> omega))
