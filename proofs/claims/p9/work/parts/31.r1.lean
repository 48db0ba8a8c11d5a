set_option maxHeartbeats 4000000 in
set_option maxRecDepth 100000 in
theorem s_isIn {σ : xS} {v low high : Int} {Q : Option xV → xS → Prop} (hQ : ∀ r : Int, ((r = 1 ∧ low ≤ v ∧ v ≤ high) ∨ (r = 0 ∧ (v < low ∨ high < v))) → Q (some (xvi r)) σ) : xT kX11_isIn [xvi v, xvi low, xvi high] σ Q := by
  refine ⟨Nat.le_of_ble_eq_true rfl, fun X hX => ?_⟩
  show X 0 [xvi v, xvi low, xvi high] σ
  refine hX 400 0 _ _ ?_
  refine And.intro (fun c1 => ?_) (fun c1 => ?_)
  · refine hX 400 14 _ _ ?_
    refine And.intro rfl ?_
    refine And.intro (by omega) ?_
    exact hQ _ (show (0 = 1 ∧ low ≤ v ∧ v ≤ high) ∨ (0 = 0 ∧ (v < low ∨ high < v)) from by first | trivial | omega)
  · refine And.intro (fun c2 => ?_) (fun c2 => ?_)
    · refine hX 400 14 _ _ ?_
      refine And.intro rfl ?_
      refine And.intro (by omega) ?_
      exact hQ _ (show (0 = 1 ∧ low ≤ v ∧ v ≤ high) ∨ (0 = 0 ∧ (v < low ∨ high < v)) from by first | trivial | omega)
    · refine And.intro rfl ?_
      refine And.intro (by omega) ?_
      exact hQ _ (show (1 = 1 ∧ low ≤ v ∧ v ≤ high) ∨ (1 = 0 ∧ (v < low ∨ high < v)) from by first | trivial | omega)
set_option maxHeartbeats 4000000 in
set_option maxRecDepth 100000 in
theorem s_bitOf {σ : xS} {set k : Int} {Q : Option xV → xS → Prop} (hQ : ∀ r : Int, (r = 0 ∨ r = 1) → Q (some (xvi r)) σ) : xT kX11_bitOf [xvi set, xvi k] σ Q := by
  refine ⟨Nat.le_of_ble_eq_true rfl, fun X hX => ?_⟩
  show X 0 [xvi set, xvi k] σ
  refine hX 400 0 _ _ ?_
  intro z1 e1 l1 h1
  intro z2 e2 l2 h2
  have q2 := x1b z1; rw [← e2] at q2
  refine And.intro (fun c3 => ?_) (fun c3 => ?_)
  · refine And.intro rfl ?_
    refine And.intro (by omega) ?_
    exact hQ _ (show 0 = 0 ∨ 0 = 1 from by first | trivial | omega)
  · refine And.intro rfl ?_
    refine And.intro (by omega) ?_
    exact hQ _ (show 1 = 0 ∨ 1 = 1 from by first | trivial | omega)
set_option maxHeartbeats 4000000 in
set_option maxRecDepth 100000 in
theorem s_isSmall {σ : xS} {c : Int} {Q : Option xV → xS → Prop} (hQ : ∀ r : Int, ((r = 1 ∧ 97 ≤ c ∧ c ≤ 122) ∨ (r = 0 ∧ (c < 97 ∨ 122 < c))) → Q (some (xvi r)) σ) : xT kX11_isSmall [xvi c] σ Q := by
  refine ⟨Nat.le_of_ble_eq_true rfl, fun X hX => ?_⟩
  show X 0 [xvi c] σ
  refine hX 400 0 _ _ ?_
  refine And.intro (fun c1 => ?_) (fun c1 => ?_)
  · refine hX 400 16 _ _ ?_
    refine And.intro rfl ?_
    refine And.intro (by omega) ?_
    exact hQ _ (show (0 = 1 ∧ 97 ≤ c ∧ c ≤ 122) ∨ (0 = 0 ∧ (c < 97 ∨ 122 < c)) from by first | trivial | omega)
  · refine And.intro (fun c2 => ?_) (fun c2 => ?_)
    · refine hX 400 16 _ _ ?_
      refine And.intro rfl ?_
      refine And.intro (by omega) ?_
      exact hQ _ (show (0 = 1 ∧ 97 ≤ c ∧ c ≤ 122) ∨ (0 = 0 ∧ (c < 97 ∨ 122 < c)) from by first | trivial | omega)
    · refine And.intro rfl ?_
      refine And.intro (by omega) ?_
      exact hQ _ (show (1 = 1 ∧ 97 ≤ c ∧ c ≤ 122) ∨ (1 = 0 ∧ (c < 97 ∨ 122 < c)) from by first | trivial | omega)
set_option maxHeartbeats 4000000 in
set_option maxRecDepth 100000 in
theorem s_isDigit {σ : xS} {c : Int} {Q : Option xV → xS → Prop} (hQ : ∀ r : Int, ((r = 1 ∧ 48 ≤ c ∧ c ≤ 57) ∨ (r = 0 ∧ (c < 48 ∨ 57 < c))) → Q (some (xvi r)) σ) : xT kX11_isDigit [xvi c] σ Q := by
  refine ⟨Nat.le_of_ble_eq_true rfl, fun X hX => ?_⟩
  show X 0 [xvi c] σ
  refine hX 400 0 _ _ ?_
  refine And.intro (fun c1 => ?_) (fun c1 => ?_)
  · refine hX 400 16 _ _ ?_
    refine And.intro rfl ?_
    refine And.intro (by omega) ?_
    exact hQ _ (show (0 = 1 ∧ 48 ≤ c ∧ c ≤ 57) ∨ (0 = 0 ∧ (c < 48 ∨ 57 < c)) from by first | trivial | omega)
  · refine And.intro (fun c2 => ?_) (fun c2 => ?_)
    · refine hX 400 16 _ _ ?_
      refine And.intro rfl ?_
      refine And.intro (by omega) ?_
      exact hQ _ (show (0 = 1 ∧ 48 ≤ c ∧ c ≤ 57) ∨ (0 = 0 ∧ (c < 48 ∨ 57 < c)) from by first | trivial | omega)
    · refine And.intro rfl ?_
      refine And.intro (by omega) ?_
      exact hQ _ (show (1 = 1 ∧ 48 ≤ c ∧ c ≤ 57) ∨ (1 = 0 ∧ (c < 48 ∨ 57 < c)) from by first | trivial | omega)
set_option maxHeartbeats 4000000 in
set_option maxRecDepth 100000 in
theorem s_isWord {σ : xS} {w : Int} {Q : Option xV → xS → Prop} (hQ : ∀ r : Int, ((r = 1 ∧ σ 0 11 = 1) ∨ (r = 0 ∧ (0 : Int) ≤ 0)) → Q (some (xvi r)) σ) : xT kX11_isWord [xvr 0, xvl w] σ Q := by
  refine ⟨Nat.le_of_ble_eq_true rfl, fun X hX => ?_⟩
  show X 0 [xvr 0, xvl w, xvu] σ
  refine hX 400 0 _ _ ?_
  intro v1 e1 l1 h1
  have e1 : v1 = σ 0 11 := e1
  refine And.intro (fun c2 => ?_) (fun c2 => ?_)
  · refine hX 400 21 _ _ ?_
    refine And.intro rfl ?_
    refine And.intro (by omega) ?_
    exact hQ _ (show (0 = 1 ∧ σ 0 11 = 1) ∨ (0 = 0 ∧ (0 : Int) ≤ 0) from by first | trivial | omega)
  · intro v3 e3 l3 h3
    have e3 : v3 = σ 0 17 := e3
    intro z4 a4 b4 c4 l4 h4
    refine And.intro (fun c5 => ?_) (fun c5 => ?_)
    · refine hX 400 21 _ _ ?_
      refine And.intro rfl ?_
      refine And.intro (by omega) ?_
      exact hQ _ (show (0 = 1 ∧ σ 0 11 = 1) ∨ (0 = 0 ∧ (0 : Int) ≤ 0) from by first | trivial | omega)
    · refine And.intro rfl ?_
      refine And.intro (by omega) ?_
      exact hQ _ (show (1 = 1 ∧ σ 0 11 = 1) ∨ (1 = 0 ∧ (0 : Int) ≤ 0) from by first | trivial | omega)
set_option maxHeartbeats 4000000 in
set_option maxRecDepth 100000 in
theorem s_isSign {σ : xS} {c : Int} {Q : Option xV → xS → Prop} (hQ : ∀ r : Int, ((r = 1 ∧ σ 0 11 = 3 ∧ σ 0 14 = c) ∨ (r = 0 ∧ (0 : Int) ≤ 0)) → Q (some (xvi r)) σ) : xT kX11_isSign [xvr 0, xvi c] σ Q := by
  refine ⟨Nat.le_of_ble_eq_true rfl, fun X hX => ?_⟩
  show X 0 [xvr 0, xvi c] σ
  refine hX 400 0 _ _ ?_
  intro v1 e1 l1 h1
  have e1 : v1 = σ 0 11 := e1
  refine And.intro (fun c2 => ?_) (fun c2 => ?_)
  · refine hX 400 20 _ _ ?_
    refine And.intro rfl ?_
    refine And.intro (by omega) ?_
    exact hQ _ (show (0 = 1 ∧ σ 0 11 = 3 ∧ σ 0 14 = c) ∨ (0 = 0 ∧ (0 : Int) ≤ 0) from by first | trivial | omega)
  · intro v3 e3 l3 h3
    have e3 : v3 = σ 0 14 := e3
    refine And.intro (fun c4 => ?_) (fun c4 => ?_)
    · refine hX 400 20 _ _ ?_
      refine And.intro rfl ?_
      refine And.intro (by omega) ?_
      exact hQ _ (show (0 = 1 ∧ σ 0 11 = 3 ∧ σ 0 14 = c) ∨ (0 = 0 ∧ (0 : Int) ≤ 0) from by first | trivial | omega)
    · refine And.intro rfl ?_
      refine And.intro (by omega) ?_
      exact hQ _ (show (1 = 1 ∧ σ 0 11 = 3 ∧ σ 0 14 = c) ∨ (1 = 0 ∧ (0 : Int) ≤ 0) from by first | trivial | omega)
set_option maxHeartbeats 4000000 in
set_option maxRecDepth 100000 in
theorem s_isPerson {σ : xS} {k : Int} {Q : Option xV → xS → Prop} (hI : RI σ) (hQ : ∀ r : Int, ((r = 1 ∧ 0 ≤ k ∧ k < σ 2 1) ∨ (r = 0 ∧ (k < 0 ∨ σ 2 1 ≤ k))) → Q (some (xvi r)) σ) : xT kX11_isPerson [xvr 0, xvi k] σ Q := by
  refine ⟨Nat.le_of_ble_eq_true rfl, fun X hX => ?_⟩
  show X 0 [xvr 0, xvi k] σ
  have hI : RK σ σ := RK.rf hI
  have hb0 := hI.1.kinds; have hb1 := hI.1.persons
  refine hX 400 0 _ _ ?_
  refine And.intro (rfl) (And.intro (⟨by omega, by omega⟩) ?_)
  intro v1 e1 l1 h1
  have e1 : v1 = σ 2 1 := e1
  have rv1 : 0 ≤ (σ 2 1) ∧ (σ 2 1) ≤ 6 := hI.1.persons
  intro z2 t2 e2 l2 h2
  try have w2 : t2 = 0 := by omega
  refine s_isIn (σ := σ) (v := k) (low := 0) (high := z2)  (fun r3 p3 => ?_)
  have p3 : (r3 = 1 ∧ 0 ≤ k ∧ k ≤ z2) ∨ (r3 = 0 ∧ (k < 0 ∨ z2 < k)) := p3
  refine And.intro rfl ?_
  refine And.intro (by omega) ?_
  exact hQ _ (show (r3 = 1 ∧ 0 ≤ k ∧ k < σ 2 1) ∨ (r3 = 0 ∧ (k < 0 ∨ σ 2 1 ≤ k)) from by first | trivial | omega)
set_option maxHeartbeats 4000000 in
set_option maxRecDepth 100000 in
theorem s_isKind {σ : xS} {k : Int} {Q : Option xV → xS → Prop} (hI : RI σ) (hQ : ∀ r : Int, ((r = 1 ∧ 0 ≤ k ∧ k < σ 2 0) ∨ (r = 0 ∧ (k < 0 ∨ σ 2 0 ≤ k))) → Q (some (xvi r)) σ) : xT kX11_isKind [xvr 0, xvi k] σ Q := by
  refine ⟨Nat.le_of_ble_eq_true rfl, fun X hX => ?_⟩
  show X 0 [xvr 0, xvi k] σ
  have hI : RK σ σ := RK.rf hI
  have hb0 := hI.1.kinds; have hb1 := hI.1.persons
  refine hX 400 0 _ _ ?_
  refine And.intro (rfl) (And.intro (⟨by omega, by omega⟩) ?_)
  intro v1 e1 l1 h1
  have e1 : v1 = σ 2 0 := e1
  have rv1 : 0 ≤ (σ 2 0) ∧ (σ 2 0) ≤ 13 := hI.1.kinds
  intro z2 t2 e2 l2 h2
  try have w2 : t2 = 0 := by omega
  refine s_isIn (σ := σ) (v := k) (low := 0) (high := z2)  (fun r3 p3 => ?_)
  have p3 : (r3 = 1 ∧ 0 ≤ k ∧ k ≤ z2) ∨ (r3 = 0 ∧ (k < 0 ∨ z2 < k)) := p3
  refine And.intro rfl ?_
  refine And.intro (by omega) ?_
  exact hQ _ (show (r3 = 1 ∧ 0 ≤ k ∧ k < σ 2 0) ∨ (r3 = 0 ∧ (k < 0 ∨ σ 2 0 ≤ k)) from by first | trivial | omega)
set_option maxHeartbeats 4000000 in
set_option maxRecDepth 100000 in
theorem s_fault {σ : xS} {Q : Option xV → xS → Prop} (hI : RI σ) (hQ : ∀ r : Int, ∀ σ' : xS, RK σ σ' → Q (some (xvi r)) σ') : xT kX11_fault [xvr 0] σ Q := by
  refine ⟨Nat.le_of_ble_eq_true rfl, fun X hX => ?_⟩
  show X 0 [xvr 0] σ
  have hI : RK σ σ := RK.rf hI
  have hb0 := hI.1.kinds; have hb1 := hI.1.persons
  refine hX 400 0 _ _ ?_
  have hI := hI.p0 (j := 0) (v := 0) (by decide) (by decide) (by decide)
  intro v2 e2 l2 h2
  have e2 : v2 = σ 0 15 := e2
  refine And.intro rfl ?_
  exact hQ _ _ hI 
set_option maxHeartbeats 4000000 in
set_option maxRecDepth 100000 in
theorem s_throwsIf {σ : xS} {is : Int} {Q : Option xV → xS → Prop} (hI : RI σ) (hp0 : is = 0 ∨ is = 1) (hQ : ∀ r : Int, ∀ σ' : xS, RK σ σ' → (r = is) → Q (some (xvi r)) σ') : xT kX11_throwsIf [xvr 0, xvi is] σ Q := by
  refine ⟨Nat.le_of_ble_eq_true rfl, fun X hX => ?_⟩
  show X 0 [xvr 0, xvi is] σ
  have hI : RK σ σ := RK.rf hI
  have hb0 := hI.1.kinds; have hb1 := hI.1.persons
  refine hX 400 0 _ _ ?_
  refine And.intro (fun c1 => ?_) (fun c1 => ?_)
  · have hI := hI.p0 (j := 0) (v := 0) (by decide) (by decide) (by decide)
    refine And.intro rfl ?_
    refine And.intro (by omega) ?_
    exact hQ _ _ hI (show is = is from by first | trivial | omega)
  · have hI := hI.p0 (j := 0) (v := 1) (by decide) (by decide) (by decide)
    refine And.intro rfl ?_
    refine And.intro (by omega) ?_
    exact hQ _ _ hI (show is = is from by first | trivial | omega)
set_option maxHeartbeats 4000000 in
set_option maxRecDepth 100000 in
theorem s_cards0 {σ : xS} {k : Int} {Q : Option xV → xS → Prop} (hp0 : 0 ≤ k ∧ k ≤ 5) (hQ : ∀ r : Int, Q (some (xvi r)) σ) : xT kX11_cards [xvr 0, xvi k] σ Q := by
  refine ⟨Nat.le_of_ble_eq_true rfl, fun X hX => ?_⟩
  show X 0 [xvr 0, xvi k, xvu, xvu] σ
  refine hX 400 0 _ _ ?_
  refine And.intro (Nat.le_of_ble_eq_true rfl) ?_
  refine And.intro (Nat.le_of_ble_eq_true rfl) ?_
  have lp_4 : ∀ (m4 : Nat) (n : Int) (kind : Int), ((13 - kind).toNat) = m4 → (0 ≤ kind ∧ kind ≤ 13) → X 4 [xvr 0, xvi k, xvi n, xvi kind] σ := by
    intro m4
    induction m4 using Nat.strongRecOn with
    | _ m4 ih_4 =>
    intro n kind hm_4 hv_4
    refine hX 400 4 _ _ ?_
    refine And.intro (fun c2 => ?_) (fun c2 => ?_)
    · refine And.intro rfl ?_
      exact hQ _ 
    · intro z3 t3 e3 l3 h3
      try have w3 : t3 = 0 := by omega
      intro z4 t4 e4 l4 h4
      try have w4 : t4 = 0 := by omega
      intro z5 t5 e5 l5 h5
      try have w5 : t5 = 0 := by omega
      refine And.intro (rfl) (And.intro (⟨by omega, by omega⟩) ?_)
      intro v6 e6 l6 h6
      have e6 : v6 = σ 2 z5.toNat := e6
      intro z7 t7 e7 l7 h7
      try have w7 : t7 = 0 := by omega
      refine And.intro (Nat.le_of_ble_eq_true rfl) ?_
      intro z8 t8 e8 l8 h8
      try have w8 : t8 = 0 := by omega
      exact ih_4 _ (show (13 - z8).toNat < m4 from by omega) z7 z8 rfl (show 0 ≤ z8 ∧ z8 ≤ 13 from by first | trivial | omega | (refine ⟨by assumption, ?_⟩; omega) | (refine ⟨?_, ?_⟩ <;> omega))
  exact lp_4 _ 0 0 rfl (show 0 ≤ 0 ∧ 0 ≤ 13 from by first | trivial | omega | (refine ⟨by assumption, ?_⟩; omega) | (refine ⟨?_, ?_⟩ <;> omega))
set_option maxHeartbeats 4000000 in
set_option maxRecDepth 100000 in
theorem s_booksOf {σ : xS} {k : Int} {Q : Option xV → xS → Prop} (hQ : ∀ r : Int, Q (some (xvi r)) σ) : xT kX11_booksOf [xvr 0, xvi k] σ Q := by
  refine ⟨Nat.le_of_ble_eq_true rfl, fun X hX => ?_⟩
  show X 0 [xvr 0, xvi k, xvu, xvu] σ
  refine hX 400 0 _ _ ?_
  refine And.intro (Nat.le_of_ble_eq_true rfl) ?_
  refine And.intro (Nat.le_of_ble_eq_true rfl) ?_
  have lp_4 : ∀ (m4 : Nat) (n : Int) (kind : Int), ((13 - kind).toNat) = m4 → (0 ≤ kind ∧ kind ≤ 13) → X 4 [xvr 0, xvi k, xvi n, xvi kind] σ := by
    intro m4
    induction m4 using Nat.strongRecOn with
    | _ m4 ih_4 =>
    intro n kind hm_4 hv_4
    refine hX 400 4 _ _ ?_
    refine And.intro (fun c2 => ?_) (fun c2 => ?_)
    · refine And.intro rfl ?_
      exact hQ _ 
    · intro z3 t3 e3 l3 h3
      try have w3 : t3 = 0 := by omega
      refine And.intro (rfl) (And.intro (⟨by omega, by omega⟩) ?_)
      intro v4 e4 l4 h4
      have e4 : v4 = σ 2 z3.toNat := e4
      intro z5 t5 e5 l5 h5
      try have w5 : t5 = 0 := by omega
      refine And.intro (fun c6 => ?_) (fun c6 => ?_)
      · intro z7 t7 e7 l7 h7
        try have w7 : t7 = 0 := by omega
        refine And.intro (Nat.le_of_ble_eq_true rfl) ?_
        intro z8 t8 e8 l8 h8
        try have w8 : t8 = 0 := by omega
        exact ih_4 _ (show (13 - z8).toNat < m4 from by omega) z7 z8 rfl (show 0 ≤ z8 ∧ z8 ≤ 13 from by first | trivial | omega | (refine ⟨by assumption, ?_⟩; omega) | (refine ⟨?_, ?_⟩ <;> omega))
      · intro z9 t9 e9 l9 h9
        try have w9 : t9 = 0 := by omega
        refine And.intro (Nat.le_of_ble_eq_true rfl) ?_
        intro z10 t10 e10 l10 h10
        try have w10 : t10 = 0 := by omega
        exact ih_4 _ (show (13 - z10).toNat < m4 from by omega) z9 z10 rfl (show 0 ≤ z10 ∧ z10 ≤ 13 from by first | trivial | omega | (refine ⟨by assumption, ?_⟩; omega) | (refine ⟨?_, ?_⟩ <;> omega))
  exact lp_4 _ 0 0 rfl (show 0 ≤ 0 ∧ 0 ≤ 13 from by first | trivial | omega | (refine ⟨by assumption, ?_⟩; omega) | (refine ⟨?_, ?_⟩ <;> omega))
set_option maxHeartbeats 4000000 in
set_option maxRecDepth 100000 in
theorem s_allBooks {σ : xS} {Q : Option xV → xS → Prop} (hQ : ∀ r : Int, Q (some (xvi r)) σ) : xT kX11_allBooks [xvr 0] σ Q := by
  refine ⟨Nat.le_of_ble_eq_true rfl, fun X hX => ?_⟩
  show X 0 [xvr 0, xvu, xvu] σ
  refine hX 400 0 _ _ ?_
  refine And.intro (Nat.le_of_ble_eq_true rfl) ?_
  refine And.intro (Nat.le_of_ble_eq_true rfl) ?_
  have lp_4 : ∀ (m4 : Nat) (n : Int) (kind : Int), ((13 - kind).toNat) = m4 → (0 ≤ kind ∧ kind ≤ 13) → X 4 [xvr 0, xvi n, xvi kind] σ := by
    intro m4
    induction m4 using Nat.strongRecOn with
    | _ m4 ih_4 =>
    intro n kind hm_4 hv_4
    refine hX 400 4 _ _ ?_
    refine And.intro (fun c2 => ?_) (fun c2 => ?_)
    · refine And.intro rfl ?_
      exact hQ _ 
    · intro z3 t3 e3 l3 h3
      try have w3 : t3 = 0 := by omega
      refine And.intro (rfl) (And.intro (⟨by omega, by omega⟩) ?_)
      intro v4 e4 l4 h4
      have e4 : v4 = σ 2 z3.toNat := e4
      refine And.intro (fun c5 => ?_) (fun c5 => ?_)
      · intro z6 t6 e6 l6 h6
        try have w6 : t6 = 0 := by omega
        refine And.intro (Nat.le_of_ble_eq_true rfl) ?_
        intro z7 t7 e7 l7 h7
        try have w7 : t7 = 0 := by omega
        exact ih_4 _ (show (13 - z7).toNat < m4 from by omega) z6 z7 rfl (show 0 ≤ z7 ∧ z7 ≤ 13 from by first | trivial | omega | (refine ⟨by assumption, ?_⟩; omega) | (refine ⟨?_, ?_⟩ <;> omega))
      · intro z8 t8 e8 l8 h8
        try have w8 : t8 = 0 := by omega
        refine And.intro (Nat.le_of_ble_eq_true rfl) ?_
        intro z9 t9 e9 l9 h9
        try have w9 : t9 = 0 := by omega
        exact ih_4 _ (show (13 - z9).toNat < m4 from by omega) z8 z9 rfl (show 0 ≤ z9 ∧ z9 ≤ 13 from by first | trivial | omega | (refine ⟨by assumption, ?_⟩; omega) | (refine ⟨?_, ?_⟩ <;> omega))
  exact lp_4 _ 0 0 rfl (show 0 ≤ 0 ∧ 0 ≤ 13 from by first | trivial | omega | (refine ⟨by assumption, ?_⟩; omega) | (refine ⟨?_, ?_⟩ <;> omega))
set_option maxHeartbeats 4000000 in
set_option maxRecDepth 100000 in
theorem s_book {σ : xS} {kind : Int} {Q : Option xV → xS → Prop} (hI : RI σ) (hQ : ∀ r : Int, ∀ σ' : xS, RK σ σ' → Q (some (xvi r)) σ') : xT kX11_book [xvr 0, xvi kind] σ Q := by
  refine ⟨Nat.le_of_ble_eq_true rfl, fun X hX => ?_⟩
  show X 0 [xvr 0, xvi kind] σ
  have hI : RK σ σ := RK.rf hI
  have hb0 := hI.1.kinds; have hb1 := hI.1.persons
  refine hX 400 0 _ _ ?_
  have hI := hI.p0 (j := 0) (v := 0) (by decide) (by decide) (by decide)
  refine s_isKind (σ := (xput σ 0 0 0)) (k := kind) hI.1  (fun r2 p2 => ?_)
  have p2 : (r2 = 1 ∧ 0 ≤ kind ∧ kind < (σ 2 0)) ∨ (r2 = 0 ∧ (kind < 0 ∨ (σ 2 0) ≤ kind)) := p2
  refine And.intro (fun c3 => ?_) (fun c3 => ?_)
  · replace p2 : (kind < 0 ∨ (σ 2 0) ≤ kind) := by
      rcases p2 with q | q
      · exact absurd q.1 (by omega)
      · exact q.2
    refine And.intro rfl ?_
    exact hQ _ _ hI 
  · replace p2 : 0 ≤ kind ∧ kind < (σ 2 0) := by
      rcases p2 with q | q
      · exact q.2
      · exact absurd q.1 (by omega)
    intro z4 t4 e4 l4 h4
    try have w4 : t4 = 0 := by omega
    refine And.intro (rfl) (And.intro (⟨by omega, by omega⟩) ?_)
    intro v5 e5 l5 h5
    have e5 : v5 = σ 2 z4.toNat := e5
    have rv5 : 0 ≤ σ 2 z4.toNat ∧ σ 2 z4.toNat ≤ 6 := hI.1.bookI (z := z4) (by omega) (by omega)
    intro z6 t6 e6 l6 h6
    try have w6 : t6 = 0 := by omega
    refine And.intro rfl ?_
    exact hQ _ _ hI 
set_option maxHeartbeats 4000000 in
set_option maxRecDepth 100000 in
theorem s_heap {σ : xS} {i : Int} {Q : Option xV → xS → Prop} (hI : RI σ) (hQ : ∀ r : Int, ∀ σ' : xS, RK σ σ' → Q (some (xvi r)) σ') : xT kX11_heap [xvr 0, xvi i] σ Q := by
  refine ⟨Nat.le_of_ble_eq_true rfl, fun X hX => ?_⟩
  show X 0 [xvr 0, xvi i] σ
  have hI : RK σ σ := RK.rf hI
  have hb0 := hI.1.kinds; have hb1 := hI.1.persons
  refine hX 400 0 _ _ ?_
  have hI := hI.p0 (j := 0) (v := 0) (by decide) (by decide) (by decide)
  refine And.intro (rfl) (And.intro (⟨by omega, by omega⟩) ?_)
  intro v2 e2 l2 h2
  have e2 : v2 = σ 2 7 := e2
  have rv2 : 0 ≤ (σ 2 7) ∧ (σ 2 7) ≤ 52 := hI.1.heaped
  intro z3 t3 e3 l3 h3
  try have w3 : t3 = 0 := by omega
  refine s_isIn (σ := (xput σ 0 0 0)) (v := i) (low := 0) (high := z3)  (fun r4 p4 => ?_)
  have p4 : (r4 = 1 ∧ 0 ≤ i ∧ i ≤ z3) ∨ (r4 = 0 ∧ (i < 0 ∨ z3 < i)) := p4
  refine And.intro (fun c5 => ?_) (fun c5 => ?_)
  · replace p4 : (i < 0 ∨ z3 < i) := by
      rcases p4 with q | q
      · exact absurd q.1 (by omega)
      · exact q.2
    refine And.intro rfl ?_
    exact hQ _ _ hI 
  · replace p4 : 0 ≤ i ∧ i ≤ z3 := by
      rcases p4 with q | q
      · exact q.2
      · exact absurd q.1 (by omega)
    intro z6 t6 e6 l6 h6
    try have w6 : t6 = 0 := by omega
    refine And.intro (rfl) (And.intro (⟨by omega, by omega⟩) ?_)
    intro v7 e7 l7 h7
    have e7 : v7 = σ 2 z6.toNat := e7
    have rv7 : 0 ≤ σ 2 z6.toNat ∧ σ 2 z6.toNat < σ 2 0 := hI.1.heapI (z := z6) (by omega) (show z6 < 8 + σ 2 7 from by omega)
    refine And.intro rfl ?_
    exact hQ _ _ hI 
set_option maxHeartbeats 4000000 in
set_option maxRecDepth 100000 in
theorem s_asked {σ : xS} {what : Int} {Q : Option xV → xS → Prop} (hI : RI σ) (hQ : ∀ r : Int, ∀ σ' : xS, RK σ σ' → Q (some (xvi r)) σ') : xT kX11_asked [xvr 0, xvi what] σ Q := by
  refine ⟨Nat.le_of_ble_eq_true rfl, fun X hX => ?_⟩
  show X 0 [xvr 0, xvi what] σ
  have hI : RK σ σ := RK.rf hI
  have hb0 := hI.1.kinds; have hb1 := hI.1.persons
  refine hX 400 0 _ _ ?_
  have hI := hI.p0 (j := 0) (v := 0) (by decide) (by decide) (by decide)
  intro v2 e2 l2 h2
  have e2 : v2 = σ 0 24 := e2
  refine And.intro (fun c3 => ?_) (fun c3 => ?_)
  · refine hX 400 31 _ _ ?_
    refine And.intro rfl ?_
    exact hQ _ _ hI 
  · refine s_isIn (σ := (xput σ 0 0 0)) (v := what) (low := 0) (high := 7)  (fun r4 p4 => ?_)
    have p4 : (r4 = 1 ∧ 0 ≤ what ∧ what ≤ 7) ∨ (r4 = 0 ∧ (what < 0 ∨ 7 < what)) := p4
    refine And.intro (fun c5 => ?_) (fun c5 => ?_)
    · replace p4 : (what < 0 ∨ 7 < what) := by
        rcases p4 with q | q
        · exact absurd q.1 (by omega)
        · exact q.2
      refine hX 400 31 _ _ ?_
      refine And.intro rfl ?_
      exact hQ _ _ hI 
    · replace p4 : 0 ≤ what ∧ what ≤ 7 := by
        rcases p4 with q | q
        · exact q.2
        · exact absurd q.1 (by omega)
      refine And.intro (rfl) (And.intro (⟨by omega, by omega⟩) ?_)
      intro v6 e6 l6 h6
      have e6 : v6 = σ 7 what.toNat := e6
      refine And.intro rfl ?_
      exact hQ _ _ hI 
set_option maxHeartbeats 4000000 in
set_option maxRecDepth 100000 in
theorem s_heard {σ : xS} {what : Int} {Q : Option xV → xS → Prop} (hI : RI σ) (hQ : ∀ r : Int, ∀ σ' : xS, RK σ σ' → Q (some (xvi r)) σ') : xT kX11_heard [xvr 0, xvi what] σ Q := by
  refine ⟨Nat.le_of_ble_eq_true rfl, fun X hX => ?_⟩
  show X 0 [xvr 0, xvi what] σ
  have hI : RK σ σ := RK.rf hI
  have hb0 := hI.1.kinds; have hb1 := hI.1.persons
  refine hX 400 0 _ _ ?_
  have hI := hI.p0 (j := 0) (v := 0) (by decide) (by decide) (by decide)
  intro v2 e2 l2 h2
  have e2 : v2 = σ 0 54 := e2
  refine And.intro (fun c3 => ?_) (fun c3 => ?_)
  · refine hX 400 30 _ _ ?_
    refine And.intro rfl ?_
    exact hQ _ _ hI 
  · refine s_isIn (σ := (xput σ 0 0 0)) (v := what) (low := 0) (high := 3)  (fun r4 p4 => ?_)
    have p4 : (r4 = 1 ∧ 0 ≤ what ∧ what ≤ 3) ∨ (r4 = 0 ∧ (what < 0 ∨ 3 < what)) := p4
    refine And.intro (fun c5 => ?_) (fun c5 => ?_)
    · replace p4 : (what < 0 ∨ 3 < what) := by
        rcases p4 with q | q
        · exact absurd q.1 (by omega)
        · exact q.2
      refine hX 400 30 _ _ ?_
      refine And.intro rfl ?_
      exact hQ _ _ hI 
    · replace p4 : 0 ≤ what ∧ what ≤ 3 := by
        rcases p4 with q | q
        · exact q.2
        · exact absurd q.1 (by omega)
      refine And.intro (rfl) (And.intro (⟨by omega, by omega⟩) ?_)
      intro v6 e6 l6 h6
      have e6 : v6 = σ 22 what.toNat := e6
      refine And.intro rfl ?_
      exact hQ _ _ hI 
set_option maxHeartbeats 4000000 in
set_option maxRecDepth 100000 in
theorem s_swept {σ : xS} {i : Int} {Q : Option xV → xS → Prop} (hI : RI σ) (hQ : ∀ r : Int, ∀ σ' : xS, RK σ σ' → Q (some (xvi r)) σ') : xT kX11_swept [xvr 0, xvi i] σ Q := by
  refine ⟨Nat.le_of_ble_eq_true rfl, fun X hX => ?_⟩
  show X 0 [xvr 0, xvi i] σ
  have hI : RK σ σ := RK.rf hI
  have hb0 := hI.1.kinds; have hb1 := hI.1.persons
  refine hX 400 0 _ _ ?_
  have hI := hI.p0 (j := 0) (v := 0) (by decide) (by decide) (by decide)
  intro v2 e2 l2 h2
  have e2 : v2 = σ 0 37 := e2
  have rv2 : 0 ≤ (σ 0 37) ∧ (σ 0 37) ≤ 65 := hI.1.sw
  intro z3 t3 e3 l3 h3
  try have w3 : t3 = 0 := by omega
  refine s_isIn (σ := (xput σ 0 0 0)) (v := i) (low := 0) (high := z3)  (fun r4 p4 => ?_)
  have p4 : (r4 = 1 ∧ 0 ≤ i ∧ i ≤ z3) ∨ (r4 = 0 ∧ (i < 0 ∨ z3 < i)) := p4
  refine And.intro (fun c5 => ?_) (fun c5 => ?_)
  · replace p4 : (i < 0 ∨ z3 < i) := by
      rcases p4 with q | q
      · exact absurd q.1 (by omega)
      · exact q.2
    refine And.intro rfl ?_
    exact hQ _ _ hI 
  · replace p4 : 0 ≤ i ∧ i ≤ z3 := by
      rcases p4 with q | q
      · exact q.2
      · exact absurd q.1 (by omega)
    refine And.intro (rfl) (And.intro (⟨by omega, by omega⟩) ?_)
    intro v6 e6 l6 h6
    have e6 : v6 = σ 15 i.toNat := e6
    refine And.intro rfl ?_
    exact hQ _ _ hI 
set_option maxHeartbeats 4000000 in
set_option maxRecDepth 100000 in
theorem s_count {σ : xS} {what : Int} {Q : Option xV → xS → Prop} (hI : RI σ) (hQ : ∀ r : Int, ∀ σ' : xS, RK σ σ' → Q (some (xvi r)) σ') : xT kX11_count [xvr 0, xvi what] σ Q := by
  refine ⟨Nat.le_of_ble_eq_true rfl, fun X hX => ?_⟩
  show X 0 [xvr 0, xvi what] σ
  have hI : RK σ σ := RK.rf hI
  have hb0 := hI.1.kinds; have hb1 := hI.1.persons
  refine hX 400 0 _ _ ?_
  have hI := hI.p0 (j := 0) (v := 0) (by decide) (by decide) (by decide)
  refine And.intro (fun c2 => ?_) (fun c2 => ?_)
  · refine s_isIn (σ := (xput σ 0 0 0)) (v := what) (low := 0) (high := 3)  (fun r3 p3 => ?_)
    have p3 : (r3 = 1 ∧ 0 ≤ what ∧ what ≤ 3) ∨ (r3 = 0 ∧ (what < 0 ∨ 3 < what)) := p3
    refine And.intro (fun c4 => ?_) (fun c4 => ?_)
    · replace p3 : (what < 0 ∨ 3 < what) := by
        rcases p3 with q | q
        · exact absurd q.1 (by omega)
        · exact q.2
      refine And.intro rfl ?_
      exact hQ _ _ hI 
    · replace p3 : 0 ≤ what ∧ what ≤ 3 := by
        rcases p3 with q | q
        · exact q.2
        · exact absurd q.1 (by omega)
      refine And.intro (rfl) (And.intro (⟨by omega, by omega⟩) ?_)
      intro v5 e5 l5 h5
      have e5 : v5 = σ 2 what.toNat := e5
      refine And.intro rfl ?_
      exact hQ _ _ hI 
  · intro v6 e6 l6 h6
    have e6 : v6 = σ 0 2 := e6
    have rv6 : 0 ≤ (σ 0 2) ∧ (σ 0 2) ≤ 940 := hI.1.len
    refine And.intro rfl ?_
    exact hQ _ _ hI 
set_option maxHeartbeats 4000000 in
set_option maxRecDepth 100000 in
theorem s_areAsked {σ : xS} {a b kind : Int} {Q : Option xV → xS → Prop} (hI : RI σ) (hQ : ∀ r : Int, ((r = 1 ∧ (0 ≤ a ∧ a < σ 2 1) ∧ (0 ≤ b ∧ b < σ 2 1) ∧ (0 ≤ kind ∧ kind < σ 2 0)) ∨ (r = 0 ∧ (0 : Int) ≤ 0)) → Q (some (xvi r)) σ) : xT kX11_areAsked [xvr 0, xvi a, xvi b, xvi kind] σ Q := by
  refine ⟨Nat.le_of_ble_eq_true rfl, fun X hX => ?_⟩
  show X 0 [xvr 0, xvi a, xvi b, xvi kind] σ
  have hI : RK σ σ := RK.rf hI
  have hb0 := hI.1.kinds; have hb1 := hI.1.persons
  refine hX 400 0 _ _ ?_
  refine s_isPerson (σ := σ) (k := a) hI.1  (fun r1 p1 => ?_)
  have p1 : (r1 = 1 ∧ 0 ≤ a ∧ a < (σ 2 1)) ∨ (r1 = 0 ∧ (a < 0 ∨ (σ 2 1) ≤ a)) := p1
  refine And.intro (fun c2 => ?_) (fun c2 => ?_)
  · replace p1 : (a < 0 ∨ (σ 2 1) ≤ a) := by
      rcases p1 with q | q
      · exact absurd q.1 (by omega)
      · exact q.2
    refine hX 400 28 _ _ ?_
    refine And.intro rfl ?_
    refine And.intro (by omega) ?_
    exact hQ _ (show (0 = 1 ∧ (0 ≤ a ∧ a < σ 2 1) ∧ (0 ≤ b ∧ b < σ 2 1) ∧ (0 ≤ kind ∧ kind < σ 2 0)) ∨ (0 = 0 ∧ (0 : Int) ≤ 0) from by first | trivial | omega)
  · replace p1 : 0 ≤ a ∧ a < (σ 2 1) := by
      rcases p1 with q | q
      · exact q.2
      · exact absurd q.1 (by omega)
    refine s_isPerson (σ := σ) (k := b) hI.1  (fun r3 p3 => ?_)
    have p3 : (r3 = 1 ∧ 0 ≤ b ∧ b < (σ 2 1)) ∨ (r3 = 0 ∧ (b < 0 ∨ (σ 2 1) ≤ b)) := p3
    refine And.intro (fun c4 => ?_) (fun c4 => ?_)
    · replace p3 : (b < 0 ∨ (σ 2 1) ≤ b) := by
        rcases p3 with q | q
        · exact absurd q.1 (by omega)
        · exact q.2
      refine hX 400 28 _ _ ?_
      refine And.intro rfl ?_
      refine And.intro (by omega) ?_
      exact hQ _ (show (0 = 1 ∧ (0 ≤ a ∧ a < σ 2 1) ∧ (0 ≤ b ∧ b < σ 2 1) ∧ (0 ≤ kind ∧ kind < σ 2 0)) ∨ (0 = 0 ∧ (0 : Int) ≤ 0) from by first | trivial | omega)
    · replace p3 : 0 ≤ b ∧ b < (σ 2 1) := by
        rcases p3 with q | q
        · exact q.2
        · exact absurd q.1 (by omega)
      refine s_isKind (σ := σ) (k := kind) hI.1  (fun r5 p5 => ?_)
      have p5 : (r5 = 1 ∧ 0 ≤ kind ∧ kind < (σ 2 0)) ∨ (r5 = 0 ∧ (kind < 0 ∨ (σ 2 0) ≤ kind)) := p5
      refine And.intro (fun c6 => ?_) (fun c6 => ?_)
      · replace p5 : (kind < 0 ∨ (σ 2 0) ≤ kind) := by
          rcases p5 with q | q
          · exact absurd q.1 (by omega)
          · exact q.2
        refine hX 400 28 _ _ ?_
        refine And.intro rfl ?_
        refine And.intro (by omega) ?_
        exact hQ _ (show (0 = 1 ∧ (0 ≤ a ∧ a < σ 2 1) ∧ (0 ≤ b ∧ b < σ 2 1) ∧ (0 ≤ kind ∧ kind < σ 2 0)) ∨ (0 = 0 ∧ (0 : Int) ≤ 0) from by first | trivial | omega)
      · replace p5 : 0 ≤ kind ∧ kind < (σ 2 0) := by
          rcases p5 with q | q
          · exact q.2
          · exact absurd q.1 (by omega)
        refine And.intro rfl ?_
        refine And.intro (by omega) ?_
        exact hQ _ (show (1 = 1 ∧ (0 ≤ a ∧ a < σ 2 1) ∧ (0 ≤ b ∧ b < σ 2 1) ∧ (0 ≤ kind ∧ kind < σ 2 0)) ∨ (1 = 0 ∧ (0 : Int) ≤ 0) from by first | trivial | omega)
set_option maxHeartbeats 4000000 in
set_option maxRecDepth 100000 in
theorem s_known {σ : xS} {k kind : Int} {Q : Option xV → xS → Prop} (hI : RI σ) (hQ : ∀ r : Int, ∀ σ' : xS, RK σ σ' → Q (some (xvi r)) σ') : xT kX11_known [xvr 0, xvi k, xvi kind] σ Q := by
  refine ⟨Nat.le_of_ble_eq_true rfl, fun X hX => ?_⟩
  show X 0 [xvr 0, xvi k, xvi kind] σ
  have hI : RK σ σ := RK.rf hI
  have hb0 := hI.1.kinds; have hb1 := hI.1.persons
  refine hX 400 0 _ _ ?_
  have hI := hI.p0 (j := 0) (v := 0) (by decide) (by decide) (by decide)
  refine s_isPerson (σ := (xput σ 0 0 0)) (k := k) hI.1  (fun r2 p2 => ?_)
  have p2 : (r2 = 1 ∧ 0 ≤ k ∧ k < (σ 2 1)) ∨ (r2 = 0 ∧ (k < 0 ∨ (σ 2 1) ≤ k)) := p2
  refine And.intro (fun c3 => ?_) (fun c3 => ?_)
  · replace p2 : (k < 0 ∨ (σ 2 1) ≤ k) := by
      rcases p2 with q | q
      · exact absurd q.1 (by omega)
      · exact q.2
    refine hX 400 39 _ _ ?_
    refine And.intro rfl ?_
    exact hQ _ _ hI 
  · replace p2 : 0 ≤ k ∧ k < (σ 2 1) := by
      rcases p2 with q | q
      · exact q.2
      · exact absurd q.1 (by omega)
    refine s_isKind (σ := (xput σ 0 0 0)) (k := kind) hI.1  (fun r4 p4 => ?_)
    have p4 : (r4 = 1 ∧ 0 ≤ kind ∧ kind < (σ 2 0)) ∨ (r4 = 0 ∧ (kind < 0 ∨ (σ 2 0) ≤ kind)) := p4
    refine And.intro (fun c5 => ?_) (fun c5 => ?_)
    · replace p4 : (kind < 0 ∨ (σ 2 0) ≤ kind) := by
        rcases p4 with q | q
        · exact absurd q.1 (by omega)
        · exact q.2
      refine hX 400 39 _ _ ?_
      refine And.intro rfl ?_
      exact hQ _ _ hI 
    · replace p4 : 0 ≤ kind ∧ kind < (σ 2 0) := by
        rcases p4 with q | q
        · exact q.2
        · exact absurd q.1 (by omega)
      intro z6 t6 e6 l6 h6
      try have w6 : t6 = 0 := by omega
      intro z7 t7 e7 l7 h7
      try have w7 : t7 = 0 := by omega
      intro z8 t8 e8 l8 h8
      try have w8 : t8 = 0 := by omega
      refine And.intro (rfl) (And.intro (⟨by omega, by omega⟩) ?_)
      intro v9 e9 l9 h9
      have e9 : v9 = σ 2 z8.toNat := e9
      have rv9 : 0 ≤ σ 2 z8.toNat ∧ σ 2 z8.toNat ≤ 4 := hI.1.knI (z := z8) (by omega) (by omega)
      refine And.intro rfl ?_
      exact hQ _ _ hI 
set_option maxHeartbeats 4000000 in
set_option maxRecDepth 100000 in
theorem s_can {σ : xS} {k kind : Int} {Q : Option xV → xS → Prop} (hI : RI σ) (hQ : ∀ r : Int, ∀ σ' : xS, RK σ σ' → Q (some (xvi r)) σ') : xT kX11_can [xvr 0, xvi k, xvi kind] σ Q := by
  refine ⟨Nat.le_of_ble_eq_true rfl, fun X hX => ?_⟩
  show X 0 [xvr 0, xvi k, xvi kind, xvu, xvu] σ
  have hI : RK σ σ := RK.rf hI
  have hb0 := hI.1.kinds; have hb1 := hI.1.persons
  refine hX 400 0 _ _ ?_
  have hI := hI.p0 (j := 0) (v := 0) (by decide) (by decide) (by decide)
  refine s_isPerson (σ := (xput σ 0 0 0)) (k := k) hI.1  (fun r2 p2 => ?_)
  have p2 : (r2 = 1 ∧ 0 ≤ k ∧ k < (σ 2 1)) ∨ (r2 = 0 ∧ (k < 0 ∨ (σ 2 1) ≤ k)) := p2
  refine And.intro (fun c3 => ?_) (fun c3 => ?_)
  · replace p2 : (k < 0 ∨ (σ 2 1) ≤ k) := by
      rcases p2 with q | q
      · exact absurd q.1 (by omega)
      · exact q.2
    refine hX 400 21 _ _ ?_
    refine And.intro rfl ?_
    exact hQ _ _ hI 
  · replace p2 : 0 ≤ k ∧ k < (σ 2 1) := by
      rcases p2 with q | q
      · exact q.2
      · exact absurd q.1 (by omega)
    refine s_isKind (σ := (xput σ 0 0 0)) (k := kind) hI.1  (fun r4 p4 => ?_)
    have p4 : (r4 = 1 ∧ 0 ≤ kind ∧ kind < (σ 2 0)) ∨ (r4 = 0 ∧ (kind < 0 ∨ (σ 2 0) ≤ kind)) := p4
    refine And.intro (fun c5 => ?_) (fun c5 => ?_)
    · replace p4 : 0 ≤ kind ∧ kind < (σ 2 0) := by
        rcases p4 with q | q
        · exact q.2
        · exact absurd q.1 (by omega)
      refine And.intro (Nat.le_of_ble_eq_true rfl) ?_
      refine And.intro (Nat.le_of_ble_eq_true rfl) ?_
      have lp_28 : ∀ (m28 : Nat) (n : Int) (i : Int), ((52 - i).toNat) = m28 → (0 ≤ i ∧ i ≤ 52) → X 28 [xvr 0, xvi k, xvi kind, xvi n, xvi i] (xput σ 0 0 0) := by
        intro m28
        induction m28 using Nat.strongRecOn with
        | _ m28 ih_28 =>
        intro n i hm_28 hv_28
        refine hX 400 28 _ _ ?_
        intro z7 t7 e7 l7 h7
        try have w7 : t7 = 0 := by omega
        refine And.intro (rfl) (And.intro (⟨by omega, by omega⟩) ?_)
        intro v8 e8 l8 h8
        have e8 : v8 = σ 2 z7.toNat := e8
        have rv8 : 0 ≤ σ 2 z7.toNat ∧ σ 2 z7.toNat ≤ 52 := hI.1.othI (z := z7) (by omega) (by omega)
        refine And.intro (fun c9 => ?_) (fun c9 => ?_)
        · refine And.intro rfl ?_
          exact hQ _ _ hI 
        · intro z10 t10 e10 l10 h10
          try have w10 : t10 = 0 := by omega
          intro z11 t11 e11 l11 h11
          try have w11 : t11 = 0 := by omega
          intro z12 t12 e12 l12 h12
          try have w12 : t12 = 0 := by omega
          refine And.intro (rfl) (And.intro (⟨by omega, by omega⟩) ?_)
          intro v13 e13 l13 h13
          have e13 : v13 = σ 2 z12.toNat := e13
          refine s_bitOf (σ := (xput σ 0 0 0)) (set := v13) (k := kind)  (fun r14 p14 => ?_)
          have p14 : r14 = 0 ∨ r14 = 1 := p14
          refine And.intro (fun c15 => ?_) (fun c15 => ?_)
          · intro z16 t16 e16 l16 h16
            try have w16 : t16 = 0 := by omega
            refine And.intro (Nat.le_of_ble_eq_true rfl) ?_
            intro z17 t17 e17 l17 h17
            try have w17 : t17 = 0 := by omega
            exact ih_28 _ (show (52 - z17).toNat < m28 from by omega) z16 z17 rfl (show 0 ≤ z17 ∧ z17 ≤ 52 from by first | trivial | omega | (refine ⟨by assumption, ?_⟩; omega) | (refine ⟨?_, ?_⟩ <;> omega))
          · intro z18 t18 e18 l18 h18
            try have w18 : t18 = 0 := by omega
            refine And.intro (Nat.le_of_ble_eq_true rfl) ?_
            intro z19 t19 e19 l19 h19
            try have w19 : t19 = 0 := by omega
            exact ih_28 _ (show (52 - z19).toNat < m28 from by omega) z18 z19 rfl (show 0 ≤ z19 ∧ z19 ≤ 52 from by first | trivial | omega | (refine ⟨by assumption, ?_⟩; omega) | (refine ⟨?_, ?_⟩ <;> omega))
      exact lp_28 _ 0 0 rfl (show 0 ≤ 0 ∧ 0 ≤ 52 from by first | trivial | omega | (refine ⟨by assumption, ?_⟩; omega) | (refine ⟨?_, ?_⟩ <;> omega))
    · replace p4 : (kind < 0 ∨ (σ 2 0) ≤ kind) := by
        rcases p4 with q | q
        · exact absurd q.1 (by omega)
        · exact q.2
      refine hX 400 21 _ _ ?_
      refine And.intro rfl ?_
      exact hQ _ _ hI 
set_option maxHeartbeats 4000000 in
set_option maxRecDepth 100000 in
theorem s_bad {σ : xS} {kind : Int} {Q : Option xV → xS → Prop} (hI : RI σ) (hQ : ∀ r : Int, ∀ σ' : xS, RK σ σ' → (r = 0) → Q (some (xvi r)) σ') : xT kX11_bad [xvr 0, xvi kind] σ Q := by
  refine ⟨Nat.le_of_ble_eq_true rfl, fun X hX => ?_⟩
  show X 0 [xvr 0, xvi kind] σ
  have hI : RK σ σ := RK.rf hI
  have hb0 := hI.1.kinds; have hb1 := hI.1.persons
  refine hX 400 0 _ _ ?_
  have hI := hI.p0 (j := 15) (v := kind) (by decide) (by decide) (by decide)
  intro v2 e2 l2 h2
  have e2 : v2 = σ 0 12 := e2
  have hI := hI.p0 (j := 16) (v := v2) (by decide) (by decide) (by decide)
  refine And.intro rfl ?_
  refine And.intro (by omega) ?_
  exact hQ _ _ hI (show 0 = 0 from by first | trivial | omega)
