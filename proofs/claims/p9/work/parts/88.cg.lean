set_option maxHeartbeats 4000000 in
set_option maxRecDepth 100000 in
theorem sX2_find {σ : xS} {name : Int} {Q : Option xV → xS → Prop} (hp0 : 0 ≤ σ 0 1 ∧ σ 0 1 ≤ 6) (hQ : ∀ r : Int, (-1 ≤ r ∧ r < σ 0 1 ∨ r = -1) → Q (some (xvi r)) σ) : xT kX2_find [xvr 0, xvl name] σ Q := by
  refine ⟨Nat.le_of_ble_eq_true rfl, fun X hX => ?_⟩
  show X 0 [xvr 0, xvl name, xvu, xvu] σ
  refine hX 400 0 _ _ ?_
  refine And.intro (Nat.le_of_ble_eq_true rfl) ?_
  show xw _ _ _ _ _ _ _ _ _ _ [xvr 0, xvl name, xvu, xvi 0] _ _
  have lp_2 : ∀ (m2 : Nat) (p : Int), ((6 - p).toNat) = m2 → (0 ≤ p) → X 2 [xvr 0, xvl name, xvu, xvi p] σ := by
    intro m2
    induction m2 using Nat.strongRecOn with
    | _ m2 ih_2 =>
    intro p hm_2 hv_2
    refine hX 400 2 _ _ ?_
    intro v2 e2 l2 h2
    have e2 : v2 = σ 0 1 := e2
    refine And.intro (fun c3 => ?_) (fun c3 => ?_)
    · refine And.intro rfl ?_
      exact hQ _ (show -1 ≤ (-1) ∧ (-1) < σ 0 1 ∨ (-1) = -1 from by first | trivial | omega)
    · refine And.intro (rfl) (And.intro (⟨by omega, by omega⟩) ?_)
      intro v4 e4 l4 h4
      have e4 : v4 = σ 1 p.toNat := e4
      intro z5 a5 b5 c5 l5 h5
      refine And.intro (fun c6 => ?_) (fun c6 => ?_)
      · intro z7 t7 e7 l7 h7
        try have w7 : t7 = 0 := by omega
        show xw _ _ _ _ _ _ _ _ _ _ [xvr 0, xvl name, xvu, xvi z7] _ _
        exact ih_2 _ (show (6 - z7).toNat < m2 from by omega) z7 rfl (show 0 ≤ z7 from by first | trivial | omega | (refine ⟨by assumption, ?_⟩; omega) | (refine ⟨?_, ?_⟩ <;> omega))
      · refine And.intro rfl ?_
        exact hQ _ (show -1 ≤ p ∧ p < σ 0 1 ∨ p = -1 from by first | trivial | omega)
  exact lp_2 _ 0 rfl (show 0 ≤ 0 from by first | trivial | omega | (refine ⟨by assumption, ?_⟩; omega) | (refine ⟨?_, ?_⟩ <;> omega))
set_option maxHeartbeats 4000000 in
set_option maxRecDepth 100000 in
theorem sX2_hasPerson {σ : xS} {p : Int} {Q : Option xV → xS → Prop} (hQ : ∀ r : Int, ((r = 1 ∧ 0 ≤ p ∧ p < σ 0 1) ∨ (r = 0 ∧ (p < 0 ∨ σ 0 1 ≤ p))) → Q (some (xvi r)) σ) : xT kX2_hasPerson [xvr 0, xvi p] σ Q := by
  refine ⟨Nat.le_of_ble_eq_true rfl, fun X hX => ?_⟩
  show X 0 [xvr 0, xvi p] σ
  refine hX 400 0 _ _ ?_
  refine And.intro (fun c1 => ?_) (fun c1 => ?_)
  · refine hX 400 16 _ _ ?_
    refine And.intro rfl ?_
    refine And.intro (by omega) ?_
    exact hQ _ (show (0 = 1 ∧ 0 ≤ p ∧ p < σ 0 1) ∨ (0 = 0 ∧ (p < 0 ∨ σ 0 1 ≤ p)) from by first | trivial | omega)
  · intro v2 e2 l2 h2
    have e2 : v2 = σ 0 1 := e2
    refine And.intro (fun c3 => ?_) (fun c3 => ?_)
    · refine hX 400 16 _ _ ?_
      refine And.intro rfl ?_
      refine And.intro (by omega) ?_
      exact hQ _ (show (0 = 1 ∧ 0 ≤ p ∧ p < σ 0 1) ∨ (0 = 0 ∧ (p < 0 ∨ σ 0 1 ≤ p)) from by first | trivial | omega)
    · refine And.intro rfl ?_
      refine And.intro (by omega) ?_
      exact hQ _ (show (1 = 1 ∧ 0 ≤ p ∧ p < σ 0 1) ∨ (1 = 0 ∧ (p < 0 ∨ σ 0 1 ≤ p)) from by first | trivial | omega)
set_option maxHeartbeats 4000000 in
set_option maxRecDepth 100000 in
theorem sX2_hasKind {σ : xS} {kind : Int} {Q : Option xV → xS → Prop} (hQ : ∀ r : Int, ((r = 1 ∧ 0 ≤ kind ∧ kind < σ 0 0) ∨ (r = 0 ∧ (kind < 0 ∨ σ 0 0 ≤ kind))) → Q (some (xvi r)) σ) : xT kX2_hasKind [xvr 0, xvi kind] σ Q := by
  refine ⟨Nat.le_of_ble_eq_true rfl, fun X hX => ?_⟩
  show X 0 [xvr 0, xvi kind] σ
  refine hX 400 0 _ _ ?_
  refine And.intro (fun c1 => ?_) (fun c1 => ?_)
  · refine hX 400 16 _ _ ?_
    refine And.intro rfl ?_
    refine And.intro (by omega) ?_
    exact hQ _ (show (0 = 1 ∧ 0 ≤ kind ∧ kind < σ 0 0) ∨ (0 = 0 ∧ (kind < 0 ∨ σ 0 0 ≤ kind)) from by first | trivial | omega)
  · intro v2 e2 l2 h2
    have e2 : v2 = σ 0 0 := e2
    refine And.intro (fun c3 => ?_) (fun c3 => ?_)
    · refine hX 400 16 _ _ ?_
      refine And.intro rfl ?_
      refine And.intro (by omega) ?_
      exact hQ _ (show (0 = 1 ∧ 0 ≤ kind ∧ kind < σ 0 0) ∨ (0 = 0 ∧ (kind < 0 ∨ σ 0 0 ≤ kind)) from by first | trivial | omega)
    · refine And.intro rfl ?_
      refine And.intro (by omega) ?_
      exact hQ _ (show (1 = 1 ∧ 0 ≤ kind ∧ kind < σ 0 0) ∨ (1 = 0 ∧ (kind < 0 ∨ σ 0 0 ≤ kind)) from by first | trivial | omega)
set_option maxHeartbeats 4000000 in
set_option maxRecDepth 100000 in
theorem sX2_held {σ : xS} {p kind : Int} {Q : Option xV → xS → Prop} (hp0 : 0 ≤ p ∧ p ≤ 5) (hp1 : 0 ≤ kind ∧ kind ≤ 12) (hQ : ∀ r : Int, (r = σ 2 (13 * p + kind).toNat) → Q (some (xvi r)) σ) : xT kX2_held [xvr 0, xvi p, xvi kind] σ Q := by
  refine ⟨Nat.le_of_ble_eq_true rfl, fun X hX => ?_⟩
  show X 0 [xvr 0, xvi p, xvi kind] σ
  refine hX 400 0 _ _ ?_
  intro z1 t1 e1 l1 h1
  try have w1 : t1 = 0 := by omega
  intro z2 t2 e2 l2 h2
  try have w2 : t2 = 0 := by omega
  refine And.intro (rfl) (And.intro (⟨by omega, by omega⟩) ?_)
  intro v3 e3 l3 h3
  have e3 : v3 = σ 2 z2.toNat := e3
  refine And.intro rfl ?_
  exact hQ _ (by rw [e3, show z2 = 13 * p + kind from by omega])
set_option maxHeartbeats 4000000 in
set_option maxRecDepth 100000 in
theorem sX2_heapSize {σ : xS} {Q : Option xV → xS → Prop} (hp0 : 0 ≤ σ 0 8 ∧ σ 0 8 ≤ σ 0 9 ∧ σ 0 9 ≤ 52) (hQ : ∀ r : Int, (r = σ 0 9 - σ 0 8) → Q (some (xvi r)) σ) : xT kX2_heapSize [xvr 0] σ Q := by
  refine ⟨Nat.le_of_ble_eq_true rfl, fun X hX => ?_⟩
  show X 0 [xvr 0] σ
  refine hX 400 0 _ _ ?_
  intro v1 e1 l1 h1
  have e1 : v1 = σ 0 9 := e1
  intro v2 e2 l2 h2
  have e2 : v2 = σ 0 8 := e2
  intro z3 t3 e3 l3 h3
  try have w3 : t3 = 0 := by omega
  refine And.intro rfl ?_
  exact hQ _ (show z3 = σ 0 9 - σ 0 8 from by first | trivial | omega)
set_option maxHeartbeats 4000000 in
set_option maxRecDepth 100000 in
theorem sX2_inHands {σ : xS} {kind : Int} {Q : Option xV → xS → Prop} (hp0 : 0 ≤ σ 0 1 ∧ σ 0 1 ≤ 6) (hp1 : ∀ p k, p < 6 → k < 13 → 0 ≤ σ 2 (13 * p + k) ∧ σ 2 (13 * p + k) ≤ 4) (hp2 : 0 ≤ kind ∧ kind ≤ 12) (hQ : ∀ r : Int, (0 ≤ r ∧ r ≤ sm 6 (fun p => σ 2 (13 * p + kind.toNat))) → Q (some (xvi r)) σ) : xT kX2_inHands [xvr 0, xvi kind] σ Q := by
  refine ⟨Nat.le_of_ble_eq_true rfl, fun X hX => ?_⟩
  show X 0 [xvr 0, xvi kind, xvu, xvu] σ
  refine hX 400 0 _ _ ?_
  refine And.intro (Nat.le_of_ble_eq_true rfl) ?_
  show xw _ _ _ _ _ _ _ _ _ _ [xvr 0, xvi kind, xvi 0, xvu] _ _
  refine And.intro (Nat.le_of_ble_eq_true rfl) ?_
  show xw _ _ _ _ _ _ _ _ _ _ [xvr 0, xvi kind, xvi 0, xvi 0] _ _
  have lp_4 : ∀ (m4 : Nat) (n : Int) (p : Int), ((6 - p).toNat) = m4 → ((0 ≤ p ∧ p ≤ σ 0 1 ∧ 0 ≤ n ∧ n ≤ 4 * p) ∧ n ≤ sm p.toNat (fun p => σ 2 (13 * p + kind.toNat))) → X 4 [xvr 0, xvi kind, xvi n, xvi p] σ := by
    intro m4
    induction m4 using Nat.strongRecOn with
    | _ m4 ih_4 =>
    intro n p hm_4 hv_4
    refine hX 400 4 _ _ ?_
    intro v2 e2 l2 h2
    have e2 : v2 = σ 0 1 := e2
    refine And.intro (fun c3 => ?_) (fun c3 => ?_)
    · refine And.intro rfl ?_
      exact hQ _ ⟨by omega, (by have z := sm_mono (n := p.toNat) (m := 6) (g := fun p => σ 2 (13 * p + kind.toNat)) (fun i hi => (hp1 i kind.toNat hi (by omega)).1) (by omega); omega)⟩
    · refine sX2_held (σ := σ) (p := p) (kind := kind) (by omega) (by omega) (fun r4 p4 => ?_)
      have hb4 := hp1 p.toNat kind.toNat (by omega) (by omega)
      rw [show 13 * p.toNat + kind.toNat = (13 * p + kind).toNat from by omega, ← p4] at hb4
      intro z5 t5 e5 l5 h5
      try have w5 : t5 = 0 := by omega
      refine And.intro (Nat.le_of_ble_eq_true rfl) ?_
      show xw _ _ _ _ _ _ _ _ _ _ [xvr 0, xvi kind, xvi z5, xvi p] _ _
      intro z6 t6 e6 l6 h6
      try have w6 : t6 = 0 := by omega
      show xw _ _ _ _ _ _ _ _ _ _ [xvr 0, xvi kind, xvi z5, xvi z6] _ _
      exact ih_4 _ (show (6 - z6).toNat < m4 from by omega) z5 z6 rfl ⟨by omega, (by rw [show z6.toNat = p.toNat + 1 from by omega]; show z5 ≤ sm p.toNat _ + σ 2 (13 * p.toNat + kind.toNat); rw [show 13 * p.toNat + kind.toNat = (13 * p + kind).toNat from by omega]; omega)⟩
  exact lp_4 _ 0 0 rfl ⟨by omega, Int.le_refl _⟩
set_option maxHeartbeats 4000000 in
set_option maxRecDepth 100000 in
theorem sX2_inHeap {σ : xS} {kind : Int} {Q : Option xV → xS → Prop} (hp0 : 0 ≤ σ 0 8 ∧ σ 0 8 ≤ σ 0 9 ∧ σ 0 9 ≤ 52) (hp1 : 0 ≤ kind ∧ kind ≤ 12) (hQ : ∀ r : Int, (0 ≤ r ∧ r ≤ gcf (σ 4) (σ 0 8) (σ 0 9) kind.toNat) → Q (some (xvi r)) σ) : xT kX2_inHeap [xvr 0, xvi kind] σ Q := by
  refine ⟨Nat.le_of_ble_eq_true rfl, fun X hX => ?_⟩
  show X 0 [xvr 0, xvi kind, xvu, xvu] σ
  refine hX 400 0 _ _ ?_
  refine And.intro (Nat.le_of_ble_eq_true rfl) ?_
  show xw _ _ _ _ _ _ _ _ _ _ [xvr 0, xvi kind, xvi 0, xvu] _ _
  intro v1 e1 l1 h1
  have e1 : v1 = σ 0 8 := e1
  refine And.intro (Nat.le_of_ble_eq_true rfl) ?_
  show xw _ _ _ _ _ _ _ _ _ _ [xvr 0, xvi kind, xvi 0, xvi v1] _ _
  have lp_7 : ∀ (m7 : Nat) (n : Int) (i : Int), ((52 - i).toNat) = m7 → ((σ 0 8 ≤ i ∧ i ≤ σ 0 9 ∧ 0 ≤ n ∧ n ≤ i - σ 0 8) ∧ n + gcf (σ 4) i (σ 0 9) kind.toNat ≤ gcf (σ 4) (σ 0 8) (σ 0 9) kind.toNat) → X 7 [xvr 0, xvi kind, xvi n, xvi i] σ := by
    intro m7
    induction m7 using Nat.strongRecOn with
    | _ m7 ih_7 =>
    intro n i hm_7 hv_7
    obtain ⟨hv_7, hg⟩ := hv_7
    refine hX 400 7 _ _ ?_
    intro v3 e3 l3 h3
    have e3 : v3 = σ 0 9 := e3
    refine And.intro (fun c4 => ?_) (fun c4 => ?_)
    · refine And.intro rfl ?_
      exact hQ _ ⟨by omega, (by have z := gcf_nn (h := σ 4) (a := i) (b := σ 0 9) (k := kind.toNat); omega)⟩
    · refine And.intro (rfl) (And.intro (⟨by omega, by omega⟩) ?_)
      intro v5 e5 l5 h5
      have e5 : v5 = σ 4 i.toNat := e5
      refine And.intro (fun c6 => ?_) (fun c6 => ?_)
      · refine hX 400 28 _ _ ?_
        intro z7 t7 e7 l7 h7
        try have w7 : t7 = 0 := by omega
        show xw _ _ _ _ _ _ _ _ _ _ [xvr 0, xvi kind, xvi n, xvi z7] _ _
        exact ih_7 _ (show (52 - z7).toNat < m7 from by omega) n z7 rfl ⟨by omega, (by rw [gcf_s (a := i) (by omega) (by omega) (by omega)] at hg; rw [if_neg (by omega)] at hg; rw [show i + 1 = z7 from by omega] at hg; omega)⟩
      · intro z8 t8 e8 l8 h8
        try have w8 : t8 = 0 := by omega
        show xw _ _ _ _ _ _ _ _ _ _ [xvr 0, xvi kind, xvi z8, xvi i] _ _
        refine hX 400 28 _ _ ?_
        intro z9 t9 e9 l9 h9
        try have w9 : t9 = 0 := by omega
        show xw _ _ _ _ _ _ _ _ _ _ [xvr 0, xvi kind, xvi z8, xvi z9] _ _
        exact ih_7 _ (show (52 - z9).toNat < m7 from by omega) z8 z9 rfl ⟨by omega, (by rw [gcf_s (a := i) (by omega) (by omega) (by omega)] at hg; rw [if_pos (by omega)] at hg; rw [show i + 1 = z9 from by omega] at hg; omega)⟩
  exact lp_7 _ 0 v1 rfl ⟨by omega, (by rw [show v1 = σ 0 8 from by omega]; omega)⟩
set_option maxHeartbeats 4000000 in
set_option maxRecDepth 100000 in
theorem sX2_mostInOneHand {σ : xS} {kind : Int} {Q : Option xV → xS → Prop} (hp0 : 0 ≤ σ 0 1 ∧ σ 0 1 ≤ 6) (hp1 : 0 ≤ kind ∧ kind ≤ 12) (hQ : ∀ r : Int, Q (some (xvi r)) σ) : xT kX2_mostInOneHand [xvr 0, xvi kind] σ Q := by
  refine ⟨Nat.le_of_ble_eq_true rfl, fun X hX => ?_⟩
  show X 0 [xvr 0, xvi kind, xvu, xvu] σ
  refine hX 400 0 _ _ ?_
  refine And.intro (Nat.le_of_ble_eq_true rfl) ?_
  show xw _ _ _ _ _ _ _ _ _ _ [xvr 0, xvi kind, xvi 0, xvu] _ _
  refine And.intro (Nat.le_of_ble_eq_true rfl) ?_
  show xw _ _ _ _ _ _ _ _ _ _ [xvr 0, xvi kind, xvi 0, xvi 0] _ _
  have lp_4 : ∀ (m4 : Nat) (n : Int) (p : Int), ((6 - p).toNat) = m4 → (0 ≤ p) → X 4 [xvr 0, xvi kind, xvi n, xvi p] σ := by
    intro m4
    induction m4 using Nat.strongRecOn with
    | _ m4 ih_4 =>
    intro n p hm_4 hv_4
    refine hX 400 4 _ _ ?_
    intro v2 e2 l2 h2
    have e2 : v2 = σ 0 1 := e2
    refine And.intro (fun c3 => ?_) (fun c3 => ?_)
    · refine And.intro rfl ?_
      exact hQ _ 
    · refine sX2_held (σ := σ) (p := p) (kind := kind) (show 0 ≤ p ∧ p ≤ 5 from by omega) (show 0 ≤ kind ∧ kind ≤ 12 from by omega) (fun r4 p4 => ?_)
      have p4 : r4 = σ 2 (13 * p + kind).toNat := p4
      intro r5 o5 a5 b5
      refine And.intro (Nat.le_of_ble_eq_true rfl) ?_
      show xw _ _ _ _ _ _ _ _ _ _ [xvr 0, xvi kind, xvi r5, xvi p] _ _
      intro z6 t6 e6 l6 h6
      try have w6 : t6 = 0 := by omega
      show xw _ _ _ _ _ _ _ _ _ _ [xvr 0, xvi kind, xvi r5, xvi z6] _ _
      exact ih_4 _ (show (6 - z6).toNat < m4 from by omega) r5 z6 rfl (show 0 ≤ z6 from by first | trivial | omega | (refine ⟨by assumption, ?_⟩; omega) | (refine ⟨?_, ?_⟩ <;> omega))
  exact lp_4 _ 0 0 rfl (show 0 ≤ 0 from by first | trivial | omega | (refine ⟨by assumption, ?_⟩; omega) | (refine ⟨?_, ?_⟩ <;> omega))
set_option maxHeartbeats 4000000 in
set_option maxRecDepth 100000 in
theorem sX2_loose {σ : xS} {Q : Option xV → xS → Prop} (hp0 : 0 ≤ σ 0 1 ∧ σ 0 1 ≤ 6) (hp1 : 0 ≤ σ 0 8 ∧ σ 0 8 ≤ σ 0 9 ∧ σ 0 9 ≤ 52) (hQ : ∀ r : Int, Q (some (xvi r)) σ) : xT kX2_loose [xvr 0] σ Q := by
  refine ⟨Nat.le_of_ble_eq_true rfl, fun X hX => ?_⟩
  show X 0 [xvr 0, xvu, xvu] σ
  refine hX 400 0 _ _ ?_
  refine sX2_heapSize (σ := σ)  (show 0 ≤ (σ 0 8) ∧ (σ 0 8) ≤ (σ 0 9) ∧ (σ 0 9) ≤ 52 from by omega) (fun r1 p1 => ?_)
  have p1 : r1 = (σ 0 9) - (σ 0 8) := p1
  refine And.intro (Nat.le_of_ble_eq_true rfl) ?_
  show xw _ _ _ _ _ _ _ _ _ _ [xvr 0, xvi r1, xvu] _ _
  refine And.intro (Nat.le_of_ble_eq_true rfl) ?_
  show xw _ _ _ _ _ _ _ _ _ _ [xvr 0, xvi r1, xvi 0] _ _
  have lp_7 : ∀ (m7 : Nat) (n : Int) (p : Int), ((6 - p).toNat) = m7 → (0 ≤ p) → X 7 [xvr 0, xvi n, xvi p] σ := by
    intro m7
    induction m7 using Nat.strongRecOn with
    | _ m7 ih_7 =>
    intro n p hm_7 hv_7
    refine hX 400 7 _ _ ?_
    intro v3 e3 l3 h3
    have e3 : v3 = σ 0 1 := e3
    refine And.intro (fun c4 => ?_) (fun c4 => ?_)
    · refine And.intro rfl ?_
      exact hQ _ 
    · refine And.intro (rfl) (And.intro (⟨by omega, by omega⟩) ?_)
      intro v5 e5 l5 h5
      have e5 : v5 = σ 3 p.toNat := e5
      intro z6 t6 e6 l6 h6
      try have w6 : t6 = 0 := by omega
      refine And.intro (Nat.le_of_ble_eq_true rfl) ?_
      show xw _ _ _ _ _ _ _ _ _ _ [xvr 0, xvi z6, xvi p] _ _
      intro z7 t7 e7 l7 h7
      try have w7 : t7 = 0 := by omega
      show xw _ _ _ _ _ _ _ _ _ _ [xvr 0, xvi z6, xvi z7] _ _
      exact ih_7 _ (show (6 - z7).toNat < m7 from by omega) z6 z7 rfl (show 0 ≤ z7 from by first | trivial | omega | (refine ⟨by assumption, ?_⟩; omega) | (refine ⟨?_, ?_⟩ <;> omega))
  exact lp_7 _ r1 0 rfl (show 0 ≤ 0 from by first | trivial | omega | (refine ⟨by assumption, ?_⟩; omega) | (refine ⟨?_, ?_⟩ <;> omega))
set_option maxHeartbeats 4000000 in
set_option maxRecDepth 100000 in
theorem sX2_kindBits {σ : xS} {p : Int} {Q : Option xV → xS → Prop} (hp0 : 0 ≤ σ 0 0 ∧ σ 0 0 ≤ 13) (hp1 : 0 ≤ p ∧ p ≤ 5) (hQ : ∀ r : Int, Q (some (xvi r)) σ) : xT kX2_kindBits [xvr 0, xvi p] σ Q := by
  refine ⟨Nat.le_of_ble_eq_true rfl, fun X hX => ?_⟩
  show X 0 [xvr 0, xvi p, xvu, xvu] σ
  refine hX 400 0 _ _ ?_
  refine And.intro (Nat.le_of_ble_eq_true rfl) ?_
  show xw _ _ _ _ _ _ _ _ _ _ [xvr 0, xvi p, xvi 0, xvu] _ _
  refine And.intro (Nat.le_of_ble_eq_true rfl) ?_
  show xw _ _ _ _ _ _ _ _ _ _ [xvr 0, xvi p, xvi 0, xvi 0] _ _
  have lp_4 : ∀ (m4 : Nat) (n : Int) (kind : Int), ((13 - kind).toNat) = m4 → (0 ≤ kind) → X 4 [xvr 0, xvi p, xvi n, xvi kind] σ := by
    intro m4
    induction m4 using Nat.strongRecOn with
    | _ m4 ih_4 =>
    intro n kind hm_4 hv_4
    refine hX 400 4 _ _ ?_
    intro v2 e2 l2 h2
    have e2 : v2 = σ 0 0 := e2
    refine And.intro (fun c3 => ?_) (fun c3 => ?_)
    · refine And.intro rfl ?_
      exact hQ _ 
    · refine sX2_held (σ := σ) (p := p) (kind := kind) (show 0 ≤ p ∧ p ≤ 5 from by omega) (show 0 ≤ kind ∧ kind ≤ 12 from by omega) (fun r4 p4 => ?_)
      have p4 : r4 = σ 2 (13 * p + kind).toNat := p4
      refine And.intro (fun c5 => ?_) (fun c5 => ?_)
      · refine hX 400 27 _ _ ?_
        intro z6 t6 e6 l6 h6
        try have w6 : t6 = 0 := by omega
        show xw _ _ _ _ _ _ _ _ _ _ [xvr 0, xvi p, xvi n, xvi z6] _ _
        exact ih_4 _ (show (13 - z6).toNat < m4 from by omega) n z6 rfl (show 0 ≤ z6 from by first | trivial | omega | (refine ⟨by assumption, ?_⟩; omega) | (refine ⟨?_, ?_⟩ <;> omega))
      · intro z7 e7 l7 h7
        intro z8 e8 l8 h8
        refine And.intro (Nat.le_of_ble_eq_true rfl) ?_
        show xw _ _ _ _ _ _ _ _ _ _ [xvr 0, xvi p, xvi z8, xvi kind] _ _
        refine hX 400 27 _ _ ?_
        intro z9 t9 e9 l9 h9
        try have w9 : t9 = 0 := by omega
        show xw _ _ _ _ _ _ _ _ _ _ [xvr 0, xvi p, xvi z8, xvi z9] _ _
        exact ih_4 _ (show (13 - z9).toNat < m4 from by omega) z8 z9 rfl (show 0 ≤ z9 from by first | trivial | omega | (refine ⟨by assumption, ?_⟩; omega) | (refine ⟨?_, ?_⟩ <;> omega))
  exact lp_4 _ 0 0 rfl (show 0 ≤ 0 from by first | trivial | omega | (refine ⟨by assumption, ?_⟩; omega) | (refine ⟨?_, ?_⟩ <;> omega))
set_option maxHeartbeats 4000000 in
set_option maxRecDepth 100000 in
theorem sX2_booksOf {σ : xS} {p : Int} {Q : Option xV → xS → Prop} (hp0 : 0 ≤ σ 0 0 ∧ σ 0 0 ≤ 13) (hQ : ∀ r : Int, (0 ≤ r ∧ r ≤ 13) → Q (some (xvi r)) σ) : xT kX2_booksOf [xvr 0, xvi p] σ Q := by
  refine ⟨Nat.le_of_ble_eq_true rfl, fun X hX => ?_⟩
  show X 0 [xvr 0, xvi p, xvu, xvu] σ
  refine hX 400 0 _ _ ?_
  refine And.intro (Nat.le_of_ble_eq_true rfl) ?_
  show xw _ _ _ _ _ _ _ _ _ _ [xvr 0, xvi p, xvi 0, xvu] _ _
  refine And.intro (Nat.le_of_ble_eq_true rfl) ?_
  show xw _ _ _ _ _ _ _ _ _ _ [xvr 0, xvi p, xvi 0, xvi 0] _ _
  have lp_4 : ∀ (m4 : Nat) (n : Int) (kind : Int), ((13 - kind).toNat) = m4 → (0 ≤ kind ∧ kind ≤ 13 ∧ 0 ≤ n ∧ n ≤ kind) → X 4 [xvr 0, xvi p, xvi n, xvi kind] σ := by
    intro m4
    induction m4 using Nat.strongRecOn with
    | _ m4 ih_4 =>
    intro n kind hm_4 hv_4
    refine hX 400 4 _ _ ?_
    intro v2 e2 l2 h2
    have e2 : v2 = σ 0 0 := e2
    refine And.intro (fun c3 => ?_) (fun c3 => ?_)
    · refine And.intro rfl ?_
      exact hQ _ (show 0 ≤ n ∧ n ≤ 13 from by first | trivial | omega)
    · refine And.intro (rfl) (And.intro (⟨by omega, by omega⟩) ?_)
      intro v4 e4 l4 h4
      have e4 : v4 = σ 5 kind.toNat := e4
      refine And.intro (fun c5 => ?_) (fun c5 => ?_)
      · refine hX 400 25 _ _ ?_
        intro z6 t6 e6 l6 h6
        try have w6 : t6 = 0 := by omega
        show xw _ _ _ _ _ _ _ _ _ _ [xvr 0, xvi p, xvi n, xvi z6] _ _
        exact ih_4 _ (show (13 - z6).toNat < m4 from by omega) n z6 rfl (show 0 ≤ z6 ∧ z6 ≤ 13 ∧ 0 ≤ n ∧ n ≤ z6 from by first | trivial | omega | (refine ⟨by assumption, ?_⟩; omega) | (refine ⟨?_, ?_⟩ <;> omega))
      · intro z7 t7 e7 l7 h7
        try have w7 : t7 = 0 := by omega
        show xw _ _ _ _ _ _ _ _ _ _ [xvr 0, xvi p, xvi z7, xvi kind] _ _
        refine hX 400 25 _ _ ?_
        intro z8 t8 e8 l8 h8
        try have w8 : t8 = 0 := by omega
        show xw _ _ _ _ _ _ _ _ _ _ [xvr 0, xvi p, xvi z7, xvi z8] _ _
        exact ih_4 _ (show (13 - z8).toNat < m4 from by omega) z7 z8 rfl (show 0 ≤ z8 ∧ z8 ≤ 13 ∧ 0 ≤ z7 ∧ z7 ≤ z8 from by first | trivial | omega | (refine ⟨by assumption, ?_⟩; omega) | (refine ⟨?_, ?_⟩ <;> omega))
  exact lp_4 _ 0 0 rfl (show 0 ≤ 0 ∧ 0 ≤ 13 ∧ 0 ≤ 0 ∧ 0 ≤ 0 from by first | trivial | omega | (refine ⟨by assumption, ?_⟩; omega) | (refine ⟨?_, ?_⟩ <;> omega))
set_option maxHeartbeats 4000000 in
set_option maxRecDepth 100000 in
theorem sX2_allBooks {σ : xS} {Q : Option xV → xS → Prop} (hp0 : 0 ≤ σ 0 0 ∧ σ 0 0 ≤ 13) (hQ : ∀ r : Int, Q (some (xvi r)) σ) : xT kX2_allBooks [xvr 0] σ Q := by
  refine ⟨Nat.le_of_ble_eq_true rfl, fun X hX => ?_⟩
  show X 0 [xvr 0] σ
  refine hX 400 0 _ _ ?_
  intro v1 e1 l1 h1
  have e1 : v1 = σ 0 0 := e1
  refine sX2_booksOf (σ := σ) (p := (-1)) (show 0 ≤ (σ 0 0) ∧ (σ 0 0) ≤ 13 from by omega) (fun r2 p2 => ?_)
  have p2 : 0 ≤ r2 ∧ r2 ≤ 13 := p2
  intro z3 t3 e3 l3 h3
  try have w3 : t3 = 0 := by omega
  refine And.intro rfl ?_
  exact hQ _ 
set_option maxHeartbeats 4000000 in
set_option maxRecDepth 100000 in
theorem sX2_isAheadOfAll {σ : xS} {p : Int} {Q : Option xV → xS → Prop} (hp0 : 0 ≤ σ 0 0 ∧ σ 0 0 ≤ 13) (hp1 : 0 ≤ σ 0 1 ∧ σ 0 1 ≤ 6) (hQ : ∀ r : Int, (r = 0 ∨ r = 1) → Q (some (xvi r)) σ) : xT kX2_isAheadOfAll [xvr 0, xvi p] σ Q := by
  refine ⟨Nat.le_of_ble_eq_true rfl, fun X hX => ?_⟩
  show X 0 [xvr 0, xvi p, xvu, xvu] σ
  refine hX 400 0 _ _ ?_
  refine sX2_booksOf (σ := σ) (p := p) (show 0 ≤ (σ 0 0) ∧ (σ 0 0) ≤ 13 from by omega) (fun r1 p1 => ?_)
  have p1 : 0 ≤ r1 ∧ r1 ≤ 13 := p1
  refine And.intro (Nat.le_of_ble_eq_true rfl) ?_
  show xw _ _ _ _ _ _ _ _ _ _ [xvr 0, xvi p, xvi r1, xvu] _ _
  refine And.intro (Nat.le_of_ble_eq_true rfl) ?_
  show xw _ _ _ _ _ _ _ _ _ _ [xvr 0, xvi p, xvi r1, xvi 0] _ _
  have lp_8 : ∀ (m8 : Nat) (q : Int), ((6 - q).toNat) = m8 → (0 ≤ q) → X 8 [xvr 0, xvi p, xvi r1, xvi q] σ := by
    intro m8
    induction m8 using Nat.strongRecOn with
    | _ m8 ih_8 =>
    intro q hm_8 hv_8
    refine hX 400 8 _ _ ?_
    intro v3 e3 l3 h3
    have e3 : v3 = σ 0 1 := e3
    refine And.intro (fun c4 => ?_) (fun c4 => ?_)
    · refine And.intro rfl ?_
      refine And.intro (by omega) ?_
      exact hQ _ (show 1 = 0 ∨ 1 = 1 from by first | trivial | omega)
    · refine And.intro (fun c5 => ?_) (fun c5 => ?_)
      · refine hX 400 32 _ _ ?_
        intro z6 t6 e6 l6 h6
        try have w6 : t6 = 0 := by omega
        show xw _ _ _ _ _ _ _ _ _ _ [xvr 0, xvi p, xvi r1, xvi z6] _ _
        exact ih_8 _ (show (6 - z6).toNat < m8 from by omega) z6 rfl (show 0 ≤ z6 from by first | trivial | omega | (refine ⟨by assumption, ?_⟩; omega) | (refine ⟨?_, ?_⟩ <;> omega))
      · refine sX2_booksOf (σ := σ) (p := q) (show 0 ≤ (σ 0 0) ∧ (σ 0 0) ≤ 13 from by omega) (fun r7 p7 => ?_)
        have p7 : 0 ≤ r7 ∧ r7 ≤ 13 := p7
        refine And.intro (fun c8 => ?_) (fun c8 => ?_)
        · refine hX 400 32 _ _ ?_
          intro z9 t9 e9 l9 h9
          try have w9 : t9 = 0 := by omega
          show xw _ _ _ _ _ _ _ _ _ _ [xvr 0, xvi p, xvi r1, xvi z9] _ _
          exact ih_8 _ (show (6 - z9).toNat < m8 from by omega) z9 rfl (show 0 ≤ z9 from by first | trivial | omega | (refine ⟨by assumption, ?_⟩; omega) | (refine ⟨?_, ?_⟩ <;> omega))
        · refine And.intro rfl ?_
          refine And.intro (by omega) ?_
          exact hQ _ (show 0 = 0 ∨ 0 = 1 from by first | trivial | omega)
  exact lp_8 _ 0 rfl (show 0 ≤ 0 from by first | trivial | omega | (refine ⟨by assumption, ?_⟩; omega) | (refine ⟨?_, ?_⟩ <;> omega))
set_option maxHeartbeats 4000000 in
set_option maxRecDepth 100000 in
theorem sX2_after {σ : xS} {p : Int} {Q : Option xV → xS → Prop} (hp0 : 0 ≤ p ∧ p ≤ 5) (hp1 : 0 ≤ σ 0 1 ∧ σ 0 1 ≤ 6) (hQ : ∀ r : Int, (0 ≤ r ∧ r ≤ 5) → Q (some (xvi r)) σ) : xT kX2_after [xvr 0, xvi p] σ Q := by
  refine ⟨Nat.le_of_ble_eq_true rfl, fun X hX => ?_⟩
  show X 0 [xvr 0, xvi p] σ
  refine hX 400 0 _ _ ?_
  intro z1 t1 e1 l1 h1
  try have w1 : t1 = 0 := by omega
  intro v2 e2 l2 h2
  have e2 : v2 = σ 0 1 := e2
  refine And.intro (fun c3 => ?_) (fun c3 => ?_)
  · refine And.intro rfl ?_
    exact hQ _ (show 0 ≤ 0 ∧ 0 ≤ 5 from by first | trivial | omega)
  · intro z4 t4 e4 l4 h4
    try have w4 : t4 = 0 := by omega
    refine And.intro rfl ?_
    exact hQ _ (show 0 ≤ z4 ∧ z4 ≤ 5 from by first | trivial | omega)
set_option maxHeartbeats 4000000 in
set_option maxRecDepth 100000 in
theorem sX2_canDeal {σ : xS} {n : Int} {Q : Option xV → xS → Prop} (hp0 : 0 ≤ σ 0 0 ∧ σ 0 0 ≤ 13) (hp1 : 0 ≤ σ 0 1 ∧ σ 0 1 ≤ 6) (hQ : ∀ r : Int, (r = 0 ∨ r = 1) → Q (some (xvi r)) σ) : xT kX2_canDeal [xvr 0, xvi n] σ Q := by
  refine ⟨Nat.le_of_ble_eq_true rfl, fun X hX => ?_⟩
  show X 0 [xvr 0, xvi n] σ
  refine hX 400 0 _ _ ?_
  have lp_33 : ∀ (_ : Unit), (True) → X 33 [xvr 0, xvi n] σ := by
    intro _ hv_33
    refine hX 400 33 _ _ ?_
    refine And.intro rfl ?_
    refine And.intro (by omega) ?_
    exact hQ _ (show 0 = 0 ∨ 0 = 1 from by first | trivial | omega)
  intro v2 e2 l2 h2
  have e2 : v2 = σ 0 1 := e2
  refine And.intro (fun c3 => ?_) (fun c3 => ?_)
  · exact lp_33 () (show True from by first | trivial | omega | (refine ⟨by assumption, ?_⟩; omega) | (refine ⟨?_, ?_⟩ <;> omega))
  · intro v4 e4 l4 h4
    have e4 : v4 = σ 0 0 := e4
    refine And.intro (fun c5 => ?_) (fun c5 => ?_)
    · exact lp_33 () (show True from by first | trivial | omega | (refine ⟨by assumption, ?_⟩; omega) | (refine ⟨?_, ?_⟩ <;> omega))
    · intro v6 e6 l6 h6
      have e6 : v6 = σ 0 1 := e6
      intro z7 t7 e7 l7 h7
      try have w7 : t7 = 0 := by omega
      intro v8 e8 l8 h8
      have e8 : v8 = σ 0 0 := e8
      intro z9 t9 e9 l9 h9
      try have w9 : t9 = 0 := by omega
      refine And.intro (fun c10 => ?_) (fun c10 => ?_)
      · exact lp_33 () (show True from by first | trivial | omega | (refine ⟨by assumption, ?_⟩; omega) | (refine ⟨?_, ?_⟩ <;> omega))
      · refine And.intro rfl ?_
        refine And.intro (by omega) ?_
        exact hQ _ (show 1 = 0 ∨ 1 = 1 from by first | trivial | omega)
set_option maxHeartbeats 4000000 in
set_option maxRecDepth 100000 in
theorem sX2_whyNot {σ : xS} {p q kind : Int} {Q : Option xV → xS → Prop} (hp0 : 0 ≤ p ∧ p ≤ 5) (hp1 : 0 ≤ kind ∧ kind ≤ 12) (hQ : ∀ r : Int, (0 ≤ r ∧ r ≤ 4) → Q (some (xvi r)) σ) : xT kX2_whyNot [xvr 0, xvi p, xvi q, xvi kind] σ Q := by
  refine ⟨Nat.le_of_ble_eq_true rfl, fun X hX => ?_⟩
  show X 0 [xvr 0, xvi p, xvi q, xvi kind] σ
  refine hX 400 0 _ _ ?_
  intro v1 e1 l1 h1
  have e1 : v1 = σ 0 14 := e1
  refine And.intro (fun c2 => ?_) (fun c2 => ?_)
  · intro v3 e3 l3 h3
    have e3 : v3 = σ 0 14 := e3
    refine And.intro (fun c4 => ?_) (fun c4 => ?_)
    · refine sX2_held (σ := σ) (p := p) (kind := kind) (show 0 ≤ p ∧ p ≤ 5 from by omega) (show 0 ≤ kind ∧ kind ≤ 12 from by omega) (fun r5 p5 => ?_)
      have p5 : r5 = σ 2 (13 * p + kind).toNat := p5
      refine And.intro (fun c6 => ?_) (fun c6 => ?_)
      · refine And.intro (fun c7 => ?_) (fun c7 => ?_)
        · refine And.intro rfl ?_
          exact hQ _ (show 0 ≤ 0 ∧ 0 ≤ 4 from by first | trivial | omega)
        · refine And.intro rfl ?_
          exact hQ _ (show 0 ≤ 4 ∧ 4 ≤ 4 from by first | trivial | omega)
      · refine And.intro rfl ?_
        exact hQ _ (show 0 ≤ 3 ∧ 3 ≤ 4 from by first | trivial | omega)
    · refine And.intro rfl ?_
      exact hQ _ (show 0 ≤ 2 ∧ 2 ≤ 4 from by first | trivial | omega)
  · refine And.intro rfl ?_
    exact hQ _ (show 0 ≤ 1 ∧ 1 ≤ 4 from by first | trivial | omega)
set_option maxHeartbeats 4000000 in
set_option maxRecDepth 100000 in
theorem sX2_leastKind {σ : xS} {p : Int} {Q : Option xV → xS → Prop} (hp0 : 0 ≤ σ 0 0 ∧ σ 0 0 ≤ 13) (hp1 : 0 ≤ p ∧ p ≤ 5) (hQ : ∀ r : Int, (0 ≤ r ∧ r ≤ 12) → Q (some (xvi r)) σ) : xT kX2_leastKind [xvr 0, xvi p] σ Q := by
  refine ⟨Nat.le_of_ble_eq_true rfl, fun X hX => ?_⟩
  show X 0 [xvr 0, xvi p, xvu] σ
  refine hX 400 0 _ _ ?_
  refine And.intro (Nat.le_of_ble_eq_true rfl) ?_
  show xw _ _ _ _ _ _ _ _ _ _ [xvr 0, xvi p, xvi 0] _ _
  have lp_2 : ∀ (m2 : Nat) (kind : Int), ((13 - kind).toNat) = m2 → (0 ≤ kind ∧ kind ≤ 13) → X 2 [xvr 0, xvi p, xvi kind] σ := by
    intro m2
    induction m2 using Nat.strongRecOn with
    | _ m2 ih_2 =>
    intro kind hm_2 hv_2
    refine hX 400 2 _ _ ?_
    intro v2 e2 l2 h2
    have e2 : v2 = σ 0 0 := e2
    refine And.intro (fun c3 => ?_) (fun c3 => ?_)
    · refine And.intro rfl ?_
      exact hQ _ (show 0 ≤ 0 ∧ 0 ≤ 12 from by first | trivial | omega)
    · refine sX2_held (σ := σ) (p := p) (kind := kind) (show 0 ≤ p ∧ p ≤ 5 from by omega) (show 0 ≤ kind ∧ kind ≤ 12 from by omega) (fun r4 p4 => ?_)
      have p4 : r4 = σ 2 (13 * p + kind).toNat := p4
      refine And.intro (fun c5 => ?_) (fun c5 => ?_)
      · intro z6 t6 e6 l6 h6
        try have w6 : t6 = 0 := by omega
        show xw _ _ _ _ _ _ _ _ _ _ [xvr 0, xvi p, xvi z6] _ _
        exact ih_2 _ (show (13 - z6).toNat < m2 from by omega) z6 rfl (show 0 ≤ z6 ∧ z6 ≤ 13 from by first | trivial | omega | (refine ⟨by assumption, ?_⟩; omega) | (refine ⟨?_, ?_⟩ <;> omega))
      · refine And.intro rfl ?_
        exact hQ _ (show 0 ≤ kind ∧ kind ≤ 12 from by first | trivial | omega)
  exact lp_2 _ 0 rfl (show 0 ≤ 0 ∧ 0 ≤ 13 from by first | trivial | omega | (refine ⟨by assumption, ?_⟩; omega) | (refine ⟨?_, ?_⟩ <;> omega))
set_option maxHeartbeats 4000000 in
set_option maxRecDepth 100000 in
theorem sX2_nextWithCard {σ : xS} {p : Int} {Q : Option xV → xS → Prop} (hp0 : 0 ≤ σ 0 1 ∧ σ 0 1 ≤ 6) (hp1 : 0 ≤ p ∧ p ≤ 5) (hQ : ∀ r : Int, (0 ≤ r ∧ r ≤ 5) → Q (some (xvi r)) σ) : xT kX2_nextWithCard [xvr 0, xvi p] σ Q := by
  refine ⟨Nat.le_of_ble_eq_true rfl, fun X hX => ?_⟩
  show X 0 [xvr 0, xvi p, xvu, xvu] σ
  refine hX 400 0 _ _ ?_
  refine sX2_after (σ := σ) (p := p) (show 0 ≤ p ∧ p ≤ 5 from by omega) (show 0 ≤ (σ 0 1) ∧ (σ 0 1) ≤ 6 from by omega) (fun r1 p1 => ?_)
  have p1 : 0 ≤ r1 ∧ r1 ≤ 5 := p1
  refine And.intro (Nat.le_of_ble_eq_true rfl) ?_
  show xw _ _ _ _ _ _ _ _ _ _ [xvr 0, xvi p, xvi r1, xvu] _ _
  refine And.intro (Nat.le_of_ble_eq_true rfl) ?_
  show xw _ _ _ _ _ _ _ _ _ _ [xvr 0, xvi p, xvi r1, xvi 1] _ _
  have lp_8 : ∀ (m8 : Nat) (q : Int) (i : Int), ((6 - i).toNat) = m8 → (0 ≤ q ∧ q ≤ 5 ∧ 1 ≤ i) → X 8 [xvr 0, xvi p, xvi q, xvi i] σ := by
    intro m8
    induction m8 using Nat.strongRecOn with
    | _ m8 ih_8 =>
    intro q i hm_8 hv_8
    refine hX 400 8 _ _ ?_
    intro v3 e3 l3 h3
    have e3 : v3 = σ 0 1 := e3
    refine And.intro (fun c4 => ?_) (fun c4 => ?_)
    · refine sX2_after (σ := σ) (p := p) (show 0 ≤ p ∧ p ≤ 5 from by omega) (show 0 ≤ (σ 0 1) ∧ (σ 0 1) ≤ 6 from by omega) (fun r5 p5 => ?_)
      have p5 : 0 ≤ r5 ∧ r5 ≤ 5 := p5
      refine And.intro rfl ?_
      exact hQ _ (show 0 ≤ r5 ∧ r5 ≤ 5 from by first | trivial | omega)
    · refine And.intro (rfl) (And.intro (⟨by omega, by omega⟩) ?_)
      intro v6 e6 l6 h6
      have e6 : v6 = σ 3 q.toNat := e6
      refine And.intro (fun c7 => ?_) (fun c7 => ?_)
      · refine sX2_after (σ := σ) (p := q) (show 0 ≤ q ∧ q ≤ 5 from by omega) (show 0 ≤ (σ 0 1) ∧ (σ 0 1) ≤ 6 from by omega) (fun r8 p8 => ?_)
        have p8 : 0 ≤ r8 ∧ r8 ≤ 5 := p8
        refine And.intro (Nat.le_of_ble_eq_true rfl) ?_
        show xw _ _ _ _ _ _ _ _ _ _ [xvr 0, xvi p, xvi r8, xvi i] _ _
        intro z9 t9 e9 l9 h9
        try have w9 : t9 = 0 := by omega
        show xw _ _ _ _ _ _ _ _ _ _ [xvr 0, xvi p, xvi r8, xvi z9] _ _
        exact ih_8 _ (show (6 - z9).toNat < m8 from by omega) r8 z9 rfl (show 0 ≤ r8 ∧ r8 ≤ 5 ∧ 1 ≤ z9 from by first | trivial | omega | (refine ⟨by assumption, ?_⟩; omega) | (refine ⟨?_, ?_⟩ <;> omega))
      · refine And.intro rfl ?_
        exact hQ _ (show 0 ≤ q ∧ q ≤ 5 from by first | trivial | omega)
  exact lp_8 _ r1 1 rfl (show 0 ≤ r1 ∧ r1 ≤ 5 ∧ 1 ≤ 1 from by first | trivial | omega | (refine ⟨by assumption, ?_⟩; omega) | (refine ⟨?_, ?_⟩ <;> omega))
set_option maxHeartbeats 4000000 in
set_option maxRecDepth 100000 in
theorem sX2_firstSure {σ : xS} {p : Int} {Q : Option xV → xS → Prop} (hp0 : 0 ≤ σ 0 0 ∧ σ 0 0 ≤ 13) (hp1 : 0 ≤ σ 0 1 ∧ σ 0 1 ≤ 6) (hp2 : 0 ≤ p ∧ p ≤ 5) (hQ : ∀ r : Int, (r = -1 ∨ (0 ≤ r ∧ r / 100 ≤ 5 ∧ r % 100 ≤ 12)) → Q (some (xvi r)) σ) : xT kX2_firstSure [xvr 0, xvi p] σ Q := by
  refine ⟨Nat.le_of_ble_eq_true rfl, fun X hX => ?_⟩
  show X 0 [xvr 0, xvi p, xvu, xvu] σ
  refine hX 400 0 _ _ ?_
  refine And.intro (Nat.le_of_ble_eq_true rfl) ?_
  show xw _ _ _ _ _ _ _ _ _ _ [xvr 0, xvi p, xvi 0, xvu] _ _
  have lp_2 : ∀ (m2 : Nat) (q : Int) (u1_3 : xV), ((6 - q).toNat) = m2 → (0 ≤ q) → X 2 [xvr 0, xvi p, xvi q, u1_3] σ := by
    intro m2
    induction m2 using Nat.strongRecOn with
    | _ m2 ih_2 =>
    intro q u1_3 hm_2 hv_2
    refine hX 400 2 _ _ ?_
    intro v2 e2 l2 h2
    have e2 : v2 = σ 0 1 := e2
    refine And.intro (fun c3 => ?_) (fun c3 => ?_)
    · refine And.intro rfl ?_
      exact hQ _ (show (-1) = -1 ∨ (0 ≤ (-1) ∧ (-1) / 100 ≤ 5 ∧ (-1) % 100 ≤ 12) from by first | trivial | omega)
    · refine And.intro (Nat.le_of_ble_eq_true rfl) ?_
      show xw _ _ _ _ _ _ _ _ _ _ [xvr 0, xvi p, xvi q, xvi 0] _ _
      have lp_12 : ∀ (m12 : Nat) (kind : Int), ((13 - kind).toNat) = m12 → (0 ≤ kind) → X 12 [xvr 0, xvi p, xvi q, xvi kind] σ := by
        intro m12
        induction m12 using Nat.strongRecOn with
        | _ m12 ih_12 =>
        intro kind hm_12 hv_12
        refine hX 400 12 _ _ ?_
        intro v5 e5 l5 h5
        have e5 : v5 = σ 0 0 := e5
        refine And.intro (fun c6 => ?_) (fun c6 => ?_)
        · refine hX 400 59 _ _ ?_
          intro z7 t7 e7 l7 h7
          try have w7 : t7 = 0 := by omega
          show xw _ _ _ _ _ _ _ _ _ _ [xvr 0, xvi p, xvi z7, xvi kind] _ _
          exact ih_2 _ (show (6 - z7).toNat < m2 from by omega) z7 (xvi kind) rfl (show 0 ≤ z7 from by first | trivial | omega | (refine ⟨by assumption, ?_⟩; omega) | (refine ⟨?_, ?_⟩ <;> omega))
        · refine And.intro (fun c8 => ?_) (fun c8 => ?_)
          · refine hX 400 59 _ _ ?_
            intro z9 t9 e9 l9 h9
            try have w9 : t9 = 0 := by omega
            show xw _ _ _ _ _ _ _ _ _ _ [xvr 0, xvi p, xvi z9, xvi kind] _ _
            exact ih_2 _ (show (6 - z9).toNat < m2 from by omega) z9 (xvi kind) rfl (show 0 ≤ z9 from by first | trivial | omega | (refine ⟨by assumption, ?_⟩; omega) | (refine ⟨?_, ?_⟩ <;> omega))
          · refine sX3_sureOf (σ := σ) (p := q) (kind := kind) (show 0 ≤ q ∧ q ≤ 5 from by omega) (show 0 ≤ kind ∧ kind ≤ 12 from by omega) (fun r10 p10 => ?_)
            have p10 : r10 = σ 10 (13 * q + kind).toNat := p10
            refine And.intro (fun c11 => ?_) (fun c11 => ?_)
            · refine hX 400 53 _ _ ?_
              intro z12 t12 e12 l12 h12
              try have w12 : t12 = 0 := by omega
              show xw _ _ _ _ _ _ _ _ _ _ [xvr 0, xvi p, xvi q, xvi z12] _ _
              exact ih_12 _ (show (13 - z12).toNat < m12 from by omega) z12 rfl (show 0 ≤ z12 from by first | trivial | omega | (refine ⟨by assumption, ?_⟩; omega) | (refine ⟨?_, ?_⟩ <;> omega))
            · refine sX2_held (σ := σ) (p := p) (kind := kind) (show 0 ≤ p ∧ p ≤ 5 from by omega) (show 0 ≤ kind ∧ kind ≤ 12 from by omega) (fun r13 p13 => ?_)
              have p13 : r13 = σ 2 (13 * p + kind).toNat := p13
              refine And.intro (fun c14 => ?_) (fun c14 => ?_)
              · refine hX 400 53 _ _ ?_
                intro z15 t15 e15 l15 h15
                try have w15 : t15 = 0 := by omega
                show xw _ _ _ _ _ _ _ _ _ _ [xvr 0, xvi p, xvi q, xvi z15] _ _
                exact ih_12 _ (show (13 - z15).toNat < m12 from by omega) z15 rfl (show 0 ≤ z15 from by first | trivial | omega | (refine ⟨by assumption, ?_⟩; omega) | (refine ⟨?_, ?_⟩ <;> omega))
              · intro z16 t16 e16 l16 h16
                try have w16 : t16 = 0 := by omega
                intro z17 t17 e17 l17 h17
                try have w17 : t17 = 0 := by omega
                refine And.intro rfl ?_
                exact hQ _ (show z17 = -1 ∨ (0 ≤ z17 ∧ z17 / 100 ≤ 5 ∧ z17 % 100 ≤ 12) from by first | trivial | omega)
      exact lp_12 _ 0 rfl (show 0 ≤ 0 from by first | trivial | omega | (refine ⟨by assumption, ?_⟩; omega) | (refine ⟨?_, ?_⟩ <;> omega))
  exact lp_2 _ 0 (xvu) rfl (show 0 ≤ 0 from by first | trivial | omega | (refine ⟨by assumption, ?_⟩; omega) | (refine ⟨?_, ?_⟩ <;> omega))
set_option maxHeartbeats 4000000 in
set_option maxRecDepth 100000 in
theorem sX2_mostHeld {σ : xS} {p : Int} {Q : Option xV → xS → Prop} (hp0 : 0 ≤ σ 0 0 ∧ σ 0 0 ≤ 13) (hp1 : 0 ≤ p ∧ p ≤ 5) (hQ : ∀ r : Int, (0 ≤ r ∧ r ≤ 12) → Q (some (xvi r)) σ) : xT kX2_mostHeld [xvr 0, xvi p] σ Q := by
  refine ⟨Nat.le_of_ble_eq_true rfl, fun X hX => ?_⟩
  show X 0 [xvr 0, xvi p, xvu, xvu] σ
  refine hX 400 0 _ _ ?_
  refine And.intro (Nat.le_of_ble_eq_true rfl) ?_
  show xw _ _ _ _ _ _ _ _ _ _ [xvr 0, xvi p, xvi 0, xvu] _ _
  refine And.intro (Nat.le_of_ble_eq_true rfl) ?_
  show xw _ _ _ _ _ _ _ _ _ _ [xvr 0, xvi p, xvi 0, xvi 1] _ _
  have lp_4 : ∀ (m4 : Nat) (best : Int) (kind : Int), ((13 - kind).toNat) = m4 → (0 ≤ best ∧ best ≤ 12 ∧ 1 ≤ kind) → X 4 [xvr 0, xvi p, xvi best, xvi kind] σ := by
    intro m4
    induction m4 using Nat.strongRecOn with
    | _ m4 ih_4 =>
    intro best kind hm_4 hv_4
    refine hX 400 4 _ _ ?_
    intro v2 e2 l2 h2
    have e2 : v2 = σ 0 0 := e2
    refine And.intro (fun c3 => ?_) (fun c3 => ?_)
    · refine And.intro rfl ?_
      exact hQ _ (show 0 ≤ best ∧ best ≤ 12 from by first | trivial | omega)
    · refine sX2_held (σ := σ) (p := p) (kind := kind) (show 0 ≤ p ∧ p ≤ 5 from by omega) (show 0 ≤ kind ∧ kind ≤ 12 from by omega) (fun r4 p4 => ?_)
      have p4 : r4 = σ 2 (13 * p + kind).toNat := p4
      refine sX2_held (σ := σ) (p := p) (kind := best) (show 0 ≤ p ∧ p ≤ 5 from by omega) (show 0 ≤ best ∧ best ≤ 12 from by omega) (fun r5 p5 => ?_)
      have p5 : r5 = σ 2 (13 * p + best).toNat := p5
      refine And.intro (fun c6 => ?_) (fun c6 => ?_)
      · refine hX 400 29 _ _ ?_
        intro z7 t7 e7 l7 h7
        try have w7 : t7 = 0 := by omega
        show xw _ _ _ _ _ _ _ _ _ _ [xvr 0, xvi p, xvi best, xvi z7] _ _
        exact ih_4 _ (show (13 - z7).toNat < m4 from by omega) best z7 rfl (show 0 ≤ best ∧ best ≤ 12 ∧ 1 ≤ z7 from by first | trivial | omega | (refine ⟨by assumption, ?_⟩; omega) | (refine ⟨?_, ?_⟩ <;> omega))
      · refine And.intro (Nat.le_of_ble_eq_true rfl) ?_
        show xw _ _ _ _ _ _ _ _ _ _ [xvr 0, xvi p, xvi kind, xvi kind] _ _
        refine hX 400 29 _ _ ?_
        intro z8 t8 e8 l8 h8
        try have w8 : t8 = 0 := by omega
        show xw _ _ _ _ _ _ _ _ _ _ [xvr 0, xvi p, xvi kind, xvi z8] _ _
        exact ih_4 _ (show (13 - z8).toNat < m4 from by omega) kind z8 rfl (show 0 ≤ kind ∧ kind ≤ 12 ∧ 1 ≤ z8 from by first | trivial | omega | (refine ⟨by assumption, ?_⟩; omega) | (refine ⟨?_, ?_⟩ <;> omega))
  exact lp_4 _ 0 1 rfl (show 0 ≤ 0 ∧ 0 ≤ 12 ∧ 1 ≤ 1 from by first | trivial | omega | (refine ⟨by assumption, ?_⟩; omega) | (refine ⟨?_, ?_⟩ <;> omega))
set_option maxHeartbeats 4000000 in
set_option maxRecDepth 100000 in
theorem sX2_richest {σ : xS} {p : Int} {Q : Option xV → xS → Prop} (hp0 : 0 ≤ σ 0 1 ∧ σ 0 1 ≤ 6) (hp1 : 0 ≤ p ∧ p ≤ 5) (hQ : ∀ r : Int, (0 ≤ r ∧ r ≤ 5) → Q (some (xvi r)) σ) : xT kX2_richest [xvr 0, xvi p] σ Q := by
  refine ⟨Nat.le_of_ble_eq_true rfl, fun X hX => ?_⟩
  show X 0 [xvr 0, xvi p, xvu, xvu] σ
  refine hX 400 0 _ _ ?_
  refine And.intro (Nat.le_of_ble_eq_true rfl) ?_
  show xw _ _ _ _ _ _ _ _ _ _ [xvr 0, xvi p, xvi (-1), xvu] _ _
  refine And.intro (Nat.le_of_ble_eq_true rfl) ?_
  show xw _ _ _ _ _ _ _ _ _ _ [xvr 0, xvi p, xvi (-1), xvi 0] _ _
  have lp_4 : ∀ (m4 : Nat) (best : Int) (q : Int), ((6 - q).toNat) = m4 → (-1 ≤ best ∧ best ≤ 5 ∧ 0 ≤ q) → X 4 [xvr 0, xvi p, xvi best, xvi q] σ := by
    intro m4
    induction m4 using Nat.strongRecOn with
    | _ m4 ih_4 =>
    intro best q hm_4 hv_4
    refine hX 400 4 _ _ ?_
    intro v2 e2 l2 h2
    have e2 : v2 = σ 0 1 := e2
    refine And.intro (fun c3 => ?_) (fun c3 => ?_)
    · refine And.intro (fun c4 => ?_) (fun c4 => ?_)
      · refine And.intro rfl ?_
        exact hQ _ (show 0 ≤ best ∧ best ≤ 5 from by first | trivial | omega)
      · refine sX2_after (σ := σ) (p := p) (show 0 ≤ p ∧ p ≤ 5 from by omega) (show 0 ≤ (σ 0 1) ∧ (σ 0 1) ≤ 6 from by omega) (fun r5 p5 => ?_)
        have p5 : 0 ≤ r5 ∧ r5 ≤ 5 := p5
        refine And.intro rfl ?_
        exact hQ _ (show 0 ≤ r5 ∧ r5 ≤ 5 from by first | trivial | omega)
    · refine And.intro (fun c6 => ?_) (fun c6 => ?_)
      · refine hX 400 39 _ _ ?_
        intro z7 t7 e7 l7 h7
        try have w7 : t7 = 0 := by omega
        show xw _ _ _ _ _ _ _ _ _ _ [xvr 0, xvi p, xvi best, xvi z7] _ _
        exact ih_4 _ (show (6 - z7).toNat < m4 from by omega) best z7 rfl (show -1 ≤ best ∧ best ≤ 5 ∧ 0 ≤ z7 from by first | trivial | omega | (refine ⟨by assumption, ?_⟩; omega) | (refine ⟨?_, ?_⟩ <;> omega))
      · refine And.intro (fun c8 => ?_) (fun c8 => ?_)
        · refine hX 400 37 _ _ ?_
          refine And.intro (Nat.le_of_ble_eq_true rfl) ?_
          show xw _ _ _ _ _ _ _ _ _ _ [xvr 0, xvi p, xvi q, xvi q] _ _
          refine hX 400 39 _ _ ?_
          intro z9 t9 e9 l9 h9
          try have w9 : t9 = 0 := by omega
          show xw _ _ _ _ _ _ _ _ _ _ [xvr 0, xvi p, xvi q, xvi z9] _ _
          exact ih_4 _ (show (6 - z9).toNat < m4 from by omega) q z9 rfl (show -1 ≤ q ∧ q ≤ 5 ∧ 0 ≤ z9 from by first | trivial | omega | (refine ⟨by assumption, ?_⟩; omega) | (refine ⟨?_, ?_⟩ <;> omega))
        · refine And.intro (rfl) (And.intro (⟨by omega, by omega⟩) ?_)
          intro v10 e10 l10 h10
          have e10 : v10 = σ 3 q.toNat := e10
          refine And.intro (rfl) (And.intro (⟨by omega, by omega⟩) ?_)
          intro v11 e11 l11 h11
          have e11 : v11 = σ 3 best.toNat := e11
          refine And.intro (fun c12 => ?_) (fun c12 => ?_)
          · refine hX 400 39 _ _ ?_
            intro z13 t13 e13 l13 h13
            try have w13 : t13 = 0 := by omega
            show xw _ _ _ _ _ _ _ _ _ _ [xvr 0, xvi p, xvi best, xvi z13] _ _
            exact ih_4 _ (show (6 - z13).toNat < m4 from by omega) best z13 rfl (show -1 ≤ best ∧ best ≤ 5 ∧ 0 ≤ z13 from by first | trivial | omega | (refine ⟨by assumption, ?_⟩; omega) | (refine ⟨?_, ?_⟩ <;> omega))
          · refine hX 400 37 _ _ ?_
            refine And.intro (Nat.le_of_ble_eq_true rfl) ?_
            show xw _ _ _ _ _ _ _ _ _ _ [xvr 0, xvi p, xvi q, xvi q] _ _
            refine hX 400 39 _ _ ?_
            intro z14 t14 e14 l14 h14
            try have w14 : t14 = 0 := by omega
            show xw _ _ _ _ _ _ _ _ _ _ [xvr 0, xvi p, xvi q, xvi z14] _ _
            exact ih_4 _ (show (6 - z14).toNat < m4 from by omega) q z14 rfl (show -1 ≤ q ∧ q ≤ 5 ∧ 0 ≤ z14 from by first | trivial | omega | (refine ⟨by assumption, ?_⟩; omega) | (refine ⟨?_, ?_⟩ <;> omega))
  exact lp_4 _ (-1) 0 rfl (show -1 ≤ (-1) ∧ (-1) ≤ 5 ∧ 0 ≤ 0 from by first | trivial | omega | (refine ⟨by assumption, ?_⟩; omega) | (refine ⟨?_, ?_⟩ <;> omega))
set_option maxHeartbeats 4000000 in
set_option maxRecDepth 100000 in
theorem sX2_choice {σ : xS} {p rule : Int} {Q : Option xV → xS → Prop} (hp0 : 0 ≤ σ 0 0 ∧ σ 0 0 ≤ 13) (hp1 : 0 ≤ σ 0 1 ∧ σ 0 1 ≤ 6) (hp2 : 0 ≤ p ∧ p ≤ 5) (hQ : ∀ r : Int, (r = -1 ∨ (0 ≤ r ∧ r / 100 ≤ 5 ∧ r % 100 ≤ 12)) → Q (some (xvi r)) σ) : xT kX2_choice [xvr 0, xvi p, xvi rule] σ Q := by
  refine ⟨Nat.le_of_ble_eq_true rfl, fun X hX => ?_⟩
  show X 0 [xvr 0, xvi p, xvi rule, xvu, xvu, xvu] σ
  refine hX 400 0 _ _ ?_
  have lp_17 : ∀ (_ : Unit), (True) → X 17 [xvr 0, xvi p, xvi rule, xvu, xvu, xvu] σ := by
    intro _ hv_17
    refine hX 400 17 _ _ ?_
    refine And.intro rfl ?_
    exact hQ _ (show (-1) = -1 ∨ (0 ≤ (-1) ∧ (-1) / 100 ≤ 5 ∧ (-1) % 100 ≤ 12) from by first | trivial | omega)
  intro v2 e2 l2 h2
  have e2 : v2 = σ 0 1 := e2
  refine And.intro (fun c3 => ?_) (fun c3 => ?_)
  · exact lp_17 () (show True from by first | trivial | omega | (refine ⟨by assumption, ?_⟩; omega) | (refine ⟨?_, ?_⟩ <;> omega))
  · refine And.intro (rfl) (And.intro (⟨by omega, by omega⟩) ?_)
    intro v4 e4 l4 h4
    have e4 : v4 = σ 3 p.toNat := e4
    refine And.intro (fun c5 => ?_) (fun c5 => ?_)
    · refine And.intro (fun c6 => ?_) (fun c6 => ?_)
      · refine And.intro (fun c7 => ?_) (fun c7 => ?_)
        · refine And.intro (Nat.le_of_ble_eq_true rfl) ?_
          show xw _ _ _ _ _ _ _ _ _ _ [xvr 0, xvi p, xvi rule, xvi (-1), xvu, xvu] _ _
          refine And.intro (fun _ => ?_) (fun c8 => absurd (by decide) c8)
          refine And.intro (fun c9 => ?_) (fun c9 => ?_)
          · refine And.intro (Nat.le_of_ble_eq_true rfl) ?_
            show xw _ _ _ _ _ _ _ _ _ _ [xvr 0, xvi p, xvi rule, xvi (-1), xvi (-1), xvu] _ _
            refine sX2_hasKind (σ := σ) (kind := (-1))  (fun r10 p10 => ?_)
            have p10 : (r10 = 1 ∧ 0 ≤ (-1) ∧ (-1) < (σ 0 0)) ∨ (r10 = 0 ∧ ((-1) < 0 ∨ (σ 0 0) ≤ (-1))) := p10
            refine And.intro (fun c11 => ?_) (fun c11 => ?_)
            · replace p10 : ((-1) < 0 ∨ (σ 0 0) ≤ (-1)) := by
                rcases p10 with q | q
                · exact absurd q.1 (by omega)
                · exact q.2
              refine hX 400 101 _ _ ?_
              refine And.intro (Nat.le_of_ble_eq_true rfl) ?_
              show xw _ _ _ _ _ _ _ _ _ _ [xvr 0, xvi p, xvi rule, xvi (-1), xvi (-1), xvi 0] _ _
              refine sX2_nextWithCard (σ := σ) (p := p) (show 0 ≤ (σ 0 1) ∧ (σ 0 1) ≤ 6 from by omega) (show 0 ≤ p ∧ p ≤ 5 from by omega) (fun r12 p12 => ?_)
              have p12 : 0 ≤ r12 ∧ r12 ≤ 5 := p12
              intro z13 t13 e13 l13 h13
              try have w13 : t13 = 0 := by omega
              refine And.intro (fun _ => ?_) (fun c14 => absurd (by decide) c14)
              refine sX2_leastKind (σ := σ) (p := p) (show 0 ≤ (σ 0 0) ∧ (σ 0 0) ≤ 13 from by omega) (show 0 ≤ p ∧ p ≤ 5 from by omega) (fun r15 p15 => ?_)
              have p15 : 0 ≤ r15 ∧ r15 ≤ 12 := p15
              intro z16 t16 e16 l16 h16
              try have w16 : t16 = 0 := by omega
              refine And.intro rfl ?_
              exact hQ _ (show z16 = -1 ∨ (0 ≤ z16 ∧ z16 / 100 ≤ 5 ∧ z16 % 100 ≤ 12) from by first | trivial | omega)
            · replace p10 : 0 ≤ (-1) ∧ (-1) < (σ 0 0) := by
                rcases p10 with q | q
                · exact q.2
                · exact absurd q.1 (by omega)
              refine sX2_held (σ := σ) (p := p) (kind := (-1)) (show 0 ≤ p ∧ p ≤ 5 from by omega) (show 0 ≤ (-1) ∧ (-1) ≤ 12 from by omega) (fun r17 p17 => ?_)
              have p17 : r17 = σ 2 (13 * p + (-1)).toNat := p17
              refine And.intro (fun c18 => ?_) (fun c18 => ?_)
              · refine hX 400 101 _ _ ?_
                refine And.intro (Nat.le_of_ble_eq_true rfl) ?_
                show xw _ _ _ _ _ _ _ _ _ _ [xvr 0, xvi p, xvi rule, xvi (-1), xvi (-1), xvi 0] _ _
                refine sX2_nextWithCard (σ := σ) (p := p) (show 0 ≤ (σ 0 1) ∧ (σ 0 1) ≤ 6 from by omega) (show 0 ≤ p ∧ p ≤ 5 from by omega) (fun r19 p19 => ?_)
                have p19 : 0 ≤ r19 ∧ r19 ≤ 5 := p19
                intro z20 t20 e20 l20 h20
                try have w20 : t20 = 0 := by omega
                refine And.intro (fun _ => ?_) (fun c21 => absurd (by decide) c21)
                refine sX2_leastKind (σ := σ) (p := p) (show 0 ≤ (σ 0 0) ∧ (σ 0 0) ≤ 13 from by omega) (show 0 ≤ p ∧ p ≤ 5 from by omega) (fun r22 p22 => ?_)
                have p22 : 0 ≤ r22 ∧ r22 ≤ 12 := p22
                intro z23 t23 e23 l23 h23
                try have w23 : t23 = 0 := by omega
                refine And.intro rfl ?_
                exact hQ _ (show z23 = -1 ∨ (0 ≤ z23 ∧ z23 / 100 ≤ 5 ∧ z23 % 100 ≤ 12) from by first | trivial | omega)
              · refine And.intro (Nat.le_of_ble_eq_true rfl) ?_
                show xw _ _ _ _ _ _ _ _ _ _ [xvr 0, xvi p, xvi rule, xvi (-1), xvi (-1), xvi 1] _ _
                refine sX2_nextWithCard (σ := σ) (p := p) (show 0 ≤ (σ 0 1) ∧ (σ 0 1) ≤ 6 from by omega) (show 0 ≤ p ∧ p ≤ 5 from by omega) (fun r24 p24 => ?_)
                have p24 : 0 ≤ r24 ∧ r24 ≤ 5 := p24
                intro z25 t25 e25 l25 h25
                try have w25 : t25 = 0 := by omega
                refine And.intro (fun c26 => absurd c26 (by decide)) (fun _ => ?_)
                intro z27 t27 e27 l27 h27
                try have w27 : t27 = 0 := by omega
                refine And.intro rfl ?_
                exact hQ _ (show z27 = -1 ∨ (0 ≤ z27 ∧ z27 / 100 ≤ 5 ∧ z27 % 100 ≤ 12) from by first | trivial | omega)
          · refine And.intro (rfl) (And.intro (⟨by omega, by omega⟩) ?_)
            intro v28 e28 l28 h28
            have e28 : v28 = σ 8 p.toNat := e28
            refine And.intro (Nat.le_of_ble_eq_true rfl) ?_
            show xw _ _ _ _ _ _ _ _ _ _ [xvr 0, xvi p, xvi rule, xvi (-1), xvi v28, xvu] _ _
            refine sX2_hasKind (σ := σ) (kind := v28)  (fun r29 p29 => ?_)
            have p29 : (r29 = 1 ∧ 0 ≤ v28 ∧ v28 < (σ 0 0)) ∨ (r29 = 0 ∧ (v28 < 0 ∨ (σ 0 0) ≤ v28)) := p29
            refine And.intro (fun c30 => ?_) (fun c30 => ?_)
            · replace p29 : (v28 < 0 ∨ (σ 0 0) ≤ v28) := by
                rcases p29 with q | q
                · exact absurd q.1 (by omega)
                · exact q.2
              refine hX 400 101 _ _ ?_
              refine And.intro (Nat.le_of_ble_eq_true rfl) ?_
              show xw _ _ _ _ _ _ _ _ _ _ [xvr 0, xvi p, xvi rule, xvi (-1), xvi v28, xvi 0] _ _
              refine sX2_nextWithCard (σ := σ) (p := p) (show 0 ≤ (σ 0 1) ∧ (σ 0 1) ≤ 6 from by omega) (show 0 ≤ p ∧ p ≤ 5 from by omega) (fun r31 p31 => ?_)
              have p31 : 0 ≤ r31 ∧ r31 ≤ 5 := p31
              intro z32 t32 e32 l32 h32
              try have w32 : t32 = 0 := by omega
              refine And.intro (fun _ => ?_) (fun c33 => absurd (by decide) c33)
              refine sX2_leastKind (σ := σ) (p := p) (show 0 ≤ (σ 0 0) ∧ (σ 0 0) ≤ 13 from by omega) (show 0 ≤ p ∧ p ≤ 5 from by omega) (fun r34 p34 => ?_)
              have p34 : 0 ≤ r34 ∧ r34 ≤ 12 := p34
              intro z35 t35 e35 l35 h35
              try have w35 : t35 = 0 := by omega
              refine And.intro rfl ?_
              exact hQ _ (show z35 = -1 ∨ (0 ≤ z35 ∧ z35 / 100 ≤ 5 ∧ z35 % 100 ≤ 12) from by first | trivial | omega)
            · replace p29 : 0 ≤ v28 ∧ v28 < (σ 0 0) := by
                rcases p29 with q | q
                · exact q.2
                · exact absurd q.1 (by omega)
              refine sX2_held (σ := σ) (p := p) (kind := v28) (show 0 ≤ p ∧ p ≤ 5 from by omega) (show 0 ≤ v28 ∧ v28 ≤ 12 from by omega) (fun r36 p36 => ?_)
              have p36 : r36 = σ 2 (13 * p + v28).toNat := p36
              refine And.intro (fun c37 => ?_) (fun c37 => ?_)
              · refine hX 400 101 _ _ ?_
                refine And.intro (Nat.le_of_ble_eq_true rfl) ?_
                show xw _ _ _ _ _ _ _ _ _ _ [xvr 0, xvi p, xvi rule, xvi (-1), xvi v28, xvi 0] _ _
                refine sX2_nextWithCard (σ := σ) (p := p) (show 0 ≤ (σ 0 1) ∧ (σ 0 1) ≤ 6 from by omega) (show 0 ≤ p ∧ p ≤ 5 from by omega) (fun r38 p38 => ?_)
                have p38 : 0 ≤ r38 ∧ r38 ≤ 5 := p38
                intro z39 t39 e39 l39 h39
                try have w39 : t39 = 0 := by omega
                refine And.intro (fun _ => ?_) (fun c40 => absurd (by decide) c40)
                refine sX2_leastKind (σ := σ) (p := p) (show 0 ≤ (σ 0 0) ∧ (σ 0 0) ≤ 13 from by omega) (show 0 ≤ p ∧ p ≤ 5 from by omega) (fun r41 p41 => ?_)
                have p41 : 0 ≤ r41 ∧ r41 ≤ 12 := p41
                intro z42 t42 e42 l42 h42
                try have w42 : t42 = 0 := by omega
                refine And.intro rfl ?_
                exact hQ _ (show z42 = -1 ∨ (0 ≤ z42 ∧ z42 / 100 ≤ 5 ∧ z42 % 100 ≤ 12) from by first | trivial | omega)
              · refine And.intro (Nat.le_of_ble_eq_true rfl) ?_
                show xw _ _ _ _ _ _ _ _ _ _ [xvr 0, xvi p, xvi rule, xvi (-1), xvi v28, xvi 1] _ _
                refine sX2_nextWithCard (σ := σ) (p := p) (show 0 ≤ (σ 0 1) ∧ (σ 0 1) ≤ 6 from by omega) (show 0 ≤ p ∧ p ≤ 5 from by omega) (fun r43 p43 => ?_)
                have p43 : 0 ≤ r43 ∧ r43 ≤ 5 := p43
                intro z44 t44 e44 l44 h44
                try have w44 : t44 = 0 := by omega
                refine And.intro (fun c45 => absurd c45 (by decide)) (fun _ => ?_)
                intro z46 t46 e46 l46 h46
                try have w46 : t46 = 0 := by omega
                refine And.intro rfl ?_
                exact hQ _ (show z46 = -1 ∨ (0 ≤ z46 ∧ z46 / 100 ≤ 5 ∧ z46 % 100 ≤ 12) from by first | trivial | omega)
        · refine sX2_firstSure (σ := σ) (p := p) (show 0 ≤ (σ 0 0) ∧ (σ 0 0) ≤ 13 from by omega) (show 0 ≤ (σ 0 1) ∧ (σ 0 1) ≤ 6 from by omega) (show 0 ≤ p ∧ p ≤ 5 from by omega) (fun r47 p47 => ?_)
          have p47 : r47 = -1 ∨ (0 ≤ r47 ∧ r47 / 100 ≤ 5 ∧ r47 % 100 ≤ 12) := p47
          refine And.intro (Nat.le_of_ble_eq_true rfl) ?_
          show xw _ _ _ _ _ _ _ _ _ _ [xvr 0, xvi p, xvi rule, xvi r47, xvu, xvu] _ _
          refine And.intro (fun c48 => ?_) (fun c48 => ?_)
          · refine And.intro (fun c49 => ?_) (fun c49 => ?_)
            · refine And.intro (Nat.le_of_ble_eq_true rfl) ?_
              show xw _ _ _ _ _ _ _ _ _ _ [xvr 0, xvi p, xvi rule, xvi r47, xvi (-1), xvu] _ _
              refine sX2_hasKind (σ := σ) (kind := (-1))  (fun r50 p50 => ?_)
              have p50 : (r50 = 1 ∧ 0 ≤ (-1) ∧ (-1) < (σ 0 0)) ∨ (r50 = 0 ∧ ((-1) < 0 ∨ (σ 0 0) ≤ (-1))) := p50
              refine And.intro (fun c51 => ?_) (fun c51 => ?_)
              · replace p50 : ((-1) < 0 ∨ (σ 0 0) ≤ (-1)) := by
                  rcases p50 with q | q
                  · exact absurd q.1 (by omega)
                  · exact q.2
                refine hX 400 101 _ _ ?_
                refine And.intro (Nat.le_of_ble_eq_true rfl) ?_
                show xw _ _ _ _ _ _ _ _ _ _ [xvr 0, xvi p, xvi rule, xvi r47, xvi (-1), xvi 0] _ _
                refine sX2_nextWithCard (σ := σ) (p := p) (show 0 ≤ (σ 0 1) ∧ (σ 0 1) ≤ 6 from by omega) (show 0 ≤ p ∧ p ≤ 5 from by omega) (fun r52 p52 => ?_)
                have p52 : 0 ≤ r52 ∧ r52 ≤ 5 := p52
                intro z53 t53 e53 l53 h53
                try have w53 : t53 = 0 := by omega
                refine And.intro (fun _ => ?_) (fun c54 => absurd (by decide) c54)
                refine sX2_leastKind (σ := σ) (p := p) (show 0 ≤ (σ 0 0) ∧ (σ 0 0) ≤ 13 from by omega) (show 0 ≤ p ∧ p ≤ 5 from by omega) (fun r55 p55 => ?_)
                have p55 : 0 ≤ r55 ∧ r55 ≤ 12 := p55
                intro z56 t56 e56 l56 h56
                try have w56 : t56 = 0 := by omega
                refine And.intro rfl ?_
                exact hQ _ (show z56 = -1 ∨ (0 ≤ z56 ∧ z56 / 100 ≤ 5 ∧ z56 % 100 ≤ 12) from by first | trivial | omega)
              · replace p50 : 0 ≤ (-1) ∧ (-1) < (σ 0 0) := by
                  rcases p50 with q | q
                  · exact q.2
                  · exact absurd q.1 (by omega)
                refine sX2_held (σ := σ) (p := p) (kind := (-1)) (show 0 ≤ p ∧ p ≤ 5 from by omega) (show 0 ≤ (-1) ∧ (-1) ≤ 12 from by omega) (fun r57 p57 => ?_)
                have p57 : r57 = σ 2 (13 * p + (-1)).toNat := p57
                refine And.intro (fun c58 => ?_) (fun c58 => ?_)
                · refine hX 400 101 _ _ ?_
                  refine And.intro (Nat.le_of_ble_eq_true rfl) ?_
                  show xw _ _ _ _ _ _ _ _ _ _ [xvr 0, xvi p, xvi rule, xvi r47, xvi (-1), xvi 0] _ _
                  refine sX2_nextWithCard (σ := σ) (p := p) (show 0 ≤ (σ 0 1) ∧ (σ 0 1) ≤ 6 from by omega) (show 0 ≤ p ∧ p ≤ 5 from by omega) (fun r59 p59 => ?_)
                  have p59 : 0 ≤ r59 ∧ r59 ≤ 5 := p59
                  intro z60 t60 e60 l60 h60
                  try have w60 : t60 = 0 := by omega
                  refine And.intro (fun _ => ?_) (fun c61 => absurd (by decide) c61)
                  refine sX2_leastKind (σ := σ) (p := p) (show 0 ≤ (σ 0 0) ∧ (σ 0 0) ≤ 13 from by omega) (show 0 ≤ p ∧ p ≤ 5 from by omega) (fun r62 p62 => ?_)
                  have p62 : 0 ≤ r62 ∧ r62 ≤ 12 := p62
                  intro z63 t63 e63 l63 h63
                  try have w63 : t63 = 0 := by omega
                  refine And.intro rfl ?_
                  exact hQ _ (show z63 = -1 ∨ (0 ≤ z63 ∧ z63 / 100 ≤ 5 ∧ z63 % 100 ≤ 12) from by first | trivial | omega)
                · refine And.intro (Nat.le_of_ble_eq_true rfl) ?_
                  show xw _ _ _ _ _ _ _ _ _ _ [xvr 0, xvi p, xvi rule, xvi r47, xvi (-1), xvi 1] _ _
                  refine sX2_nextWithCard (σ := σ) (p := p) (show 0 ≤ (σ 0 1) ∧ (σ 0 1) ≤ 6 from by omega) (show 0 ≤ p ∧ p ≤ 5 from by omega) (fun r64 p64 => ?_)
                  have p64 : 0 ≤ r64 ∧ r64 ≤ 5 := p64
                  intro z65 t65 e65 l65 h65
                  try have w65 : t65 = 0 := by omega
                  refine And.intro (fun c66 => absurd c66 (by decide)) (fun _ => ?_)
                  intro z67 t67 e67 l67 h67
                  try have w67 : t67 = 0 := by omega
                  refine And.intro rfl ?_
                  exact hQ _ (show z67 = -1 ∨ (0 ≤ z67 ∧ z67 / 100 ≤ 5 ∧ z67 % 100 ≤ 12) from by first | trivial | omega)
            · refine And.intro (rfl) (And.intro (⟨by omega, by omega⟩) ?_)
              intro v68 e68 l68 h68
              have e68 : v68 = σ 8 p.toNat := e68
              refine And.intro (Nat.le_of_ble_eq_true rfl) ?_
              show xw _ _ _ _ _ _ _ _ _ _ [xvr 0, xvi p, xvi rule, xvi r47, xvi v68, xvu] _ _
              refine sX2_hasKind (σ := σ) (kind := v68)  (fun r69 p69 => ?_)
              have p69 : (r69 = 1 ∧ 0 ≤ v68 ∧ v68 < (σ 0 0)) ∨ (r69 = 0 ∧ (v68 < 0 ∨ (σ 0 0) ≤ v68)) := p69
              refine And.intro (fun c70 => ?_) (fun c70 => ?_)
              · replace p69 : (v68 < 0 ∨ (σ 0 0) ≤ v68) := by
                  rcases p69 with q | q
                  · exact absurd q.1 (by omega)
                  · exact q.2
                refine hX 400 101 _ _ ?_
                refine And.intro (Nat.le_of_ble_eq_true rfl) ?_
                show xw _ _ _ _ _ _ _ _ _ _ [xvr 0, xvi p, xvi rule, xvi r47, xvi v68, xvi 0] _ _
                refine sX2_nextWithCard (σ := σ) (p := p) (show 0 ≤ (σ 0 1) ∧ (σ 0 1) ≤ 6 from by omega) (show 0 ≤ p ∧ p ≤ 5 from by omega) (fun r71 p71 => ?_)
                have p71 : 0 ≤ r71 ∧ r71 ≤ 5 := p71
                intro z72 t72 e72 l72 h72
                try have w72 : t72 = 0 := by omega
                refine And.intro (fun _ => ?_) (fun c73 => absurd (by decide) c73)
                refine sX2_leastKind (σ := σ) (p := p) (show 0 ≤ (σ 0 0) ∧ (σ 0 0) ≤ 13 from by omega) (show 0 ≤ p ∧ p ≤ 5 from by omega) (fun r74 p74 => ?_)
                have p74 : 0 ≤ r74 ∧ r74 ≤ 12 := p74
                intro z75 t75 e75 l75 h75
                try have w75 : t75 = 0 := by omega
                refine And.intro rfl ?_
                exact hQ _ (show z75 = -1 ∨ (0 ≤ z75 ∧ z75 / 100 ≤ 5 ∧ z75 % 100 ≤ 12) from by first | trivial | omega)
              · replace p69 : 0 ≤ v68 ∧ v68 < (σ 0 0) := by
                  rcases p69 with q | q
                  · exact q.2
                  · exact absurd q.1 (by omega)
                refine sX2_held (σ := σ) (p := p) (kind := v68) (show 0 ≤ p ∧ p ≤ 5 from by omega) (show 0 ≤ v68 ∧ v68 ≤ 12 from by omega) (fun r76 p76 => ?_)
                have p76 : r76 = σ 2 (13 * p + v68).toNat := p76
                refine And.intro (fun c77 => ?_) (fun c77 => ?_)
                · refine hX 400 101 _ _ ?_
                  refine And.intro (Nat.le_of_ble_eq_true rfl) ?_
                  show xw _ _ _ _ _ _ _ _ _ _ [xvr 0, xvi p, xvi rule, xvi r47, xvi v68, xvi 0] _ _
                  refine sX2_nextWithCard (σ := σ) (p := p) (show 0 ≤ (σ 0 1) ∧ (σ 0 1) ≤ 6 from by omega) (show 0 ≤ p ∧ p ≤ 5 from by omega) (fun r78 p78 => ?_)
                  have p78 : 0 ≤ r78 ∧ r78 ≤ 5 := p78
                  intro z79 t79 e79 l79 h79
                  try have w79 : t79 = 0 := by omega
                  refine And.intro (fun _ => ?_) (fun c80 => absurd (by decide) c80)
                  refine sX2_leastKind (σ := σ) (p := p) (show 0 ≤ (σ 0 0) ∧ (σ 0 0) ≤ 13 from by omega) (show 0 ≤ p ∧ p ≤ 5 from by omega) (fun r81 p81 => ?_)
                  have p81 : 0 ≤ r81 ∧ r81 ≤ 12 := p81
                  intro z82 t82 e82 l82 h82
                  try have w82 : t82 = 0 := by omega
                  refine And.intro rfl ?_
                  exact hQ _ (show z82 = -1 ∨ (0 ≤ z82 ∧ z82 / 100 ≤ 5 ∧ z82 % 100 ≤ 12) from by first | trivial | omega)
                · refine And.intro (Nat.le_of_ble_eq_true rfl) ?_
                  show xw _ _ _ _ _ _ _ _ _ _ [xvr 0, xvi p, xvi rule, xvi r47, xvi v68, xvi 1] _ _
                  refine sX2_nextWithCard (σ := σ) (p := p) (show 0 ≤ (σ 0 1) ∧ (σ 0 1) ≤ 6 from by omega) (show 0 ≤ p ∧ p ≤ 5 from by omega) (fun r83 p83 => ?_)
                  have p83 : 0 ≤ r83 ∧ r83 ≤ 5 := p83
                  intro z84 t84 e84 l84 h84
                  try have w84 : t84 = 0 := by omega
                  refine And.intro (fun c85 => absurd c85 (by decide)) (fun _ => ?_)
                  intro z86 t86 e86 l86 h86
                  try have w86 : t86 = 0 := by omega
                  refine And.intro rfl ?_
                  exact hQ _ (show z86 = -1 ∨ (0 ≤ z86 ∧ z86 / 100 ≤ 5 ∧ z86 % 100 ≤ 12) from by first | trivial | omega)
          · refine And.intro rfl ?_
            exact hQ _ (show r47 = -1 ∨ (0 ≤ r47 ∧ r47 / 100 ≤ 5 ∧ r47 % 100 ≤ 12) from by first | trivial | omega)
      · refine sX2_richest (σ := σ) (p := p) (show 0 ≤ (σ 0 1) ∧ (σ 0 1) ≤ 6 from by omega) (show 0 ≤ p ∧ p ≤ 5 from by omega) (fun r87 p87 => ?_)
        have p87 : 0 ≤ r87 ∧ r87 ≤ 5 := p87
        intro z88 t88 e88 l88 h88
        try have w88 : t88 = 0 := by omega
        refine sX2_mostHeld (σ := σ) (p := p) (show 0 ≤ (σ 0 0) ∧ (σ 0 0) ≤ 13 from by omega) (show 0 ≤ p ∧ p ≤ 5 from by omega) (fun r89 p89 => ?_)
        have p89 : 0 ≤ r89 ∧ r89 ≤ 12 := p89
        intro z90 t90 e90 l90 h90
        try have w90 : t90 = 0 := by omega
        refine And.intro rfl ?_
        exact hQ _ (show z90 = -1 ∨ (0 ≤ z90 ∧ z90 / 100 ≤ 5 ∧ z90 % 100 ≤ 12) from by first | trivial | omega)
    · exact lp_17 () (show True from by first | trivial | omega | (refine ⟨by assumption, ?_⟩; omega) | (refine ⟨?_, ?_⟩ <;> omega))
