/-- is 0 ahead of all: 1 or 0 -/
noncomputable def ahI (f : Nat → Int) : Int := Classical.epsilon (fun r : Int => (r = 1 ∧ AHD f 0) ∨ (r = 0 ∧ ¬ AHD f 0))
theorem ahI_e {f : Nat → Int} {r : Int} (h : (r = 1 ∧ AHD f 0) ∨ (r = 0 ∧ ¬ AHD f 0)) : r = ahI f := by
  have z := Classical.epsilon_spec (p := fun r : Int => (r = 1 ∧ AHD f 0) ∨ (r = 0 ∧ ¬ AHD f 0)) ⟨r, h⟩
  have z : (ahI f = 1 ∧ AHD f 0) ∨ (ahI f = 0 ∧ ¬ AHD f 0) := z
  rcases h with ⟨a, b⟩ | ⟨a, b⟩
  · rcases z with ⟨c, d⟩ | ⟨c, d⟩
    · exact a.trans c.symm
    · exact absurd b d
  · rcases z with ⟨c, d⟩ | ⟨c, d⟩
    · exact absurd d b
    · exact a.trans c.symm
noncomputable def gmE (f : Nat → Int) (i j seed : Int) : Nat → Int := plyN (dealF f 5 seed) (rlF i j) 300
noncomputable def gmW (f : Nat → Int) (i j fr : Int) : Nat → Int
  | 0 => 0
  | n + 1 => gmW f i j fr n + ahI (gmE f i j (wr (fr + n)))
noncomputable def gmA (f : Nat → Int) (i j fr : Int) : Nat → Int
  | 0 => 0
  | n + 1 => gmA f i j fr n + plyD (dealF f 5 (wr (fr + n))) (rlF i j) 300
theorem gmW_s {f : Nat → Int} {i j fr : Int} {n : Nat} : gmW f i j fr (n + 1) = gmW f i j fr n + ahI (gmE f i j (wr (fr + n))) := rfl
theorem gmA_s {f : Nat → Int} {i j fr : Int} {n : Nat} : gmA f i j fr (n + 1) = gmA f i j fr n + plyD (dealF f 5 (wr (fr + n))) (rlF i j) 300 := rfl
set_option maxHeartbeats 4000000 in
set_option maxRecDepth 100000 in
theorem s_booksOfF {σ : xS} {k : Int} {Q : Option xV → xS → Prop} (hp0 : 0 ≤ k ∧ k ≤ 5) (hQ : ∀ r : Int, (r = bksF (σ 2) k) → Q (some (xvi r)) σ) : xT kX11_booksOf [xvr 0, xvi k] σ Q := by
  refine ⟨Nat.le_of_ble_eq_true rfl, fun X hX => ?_⟩
  show X 0 [xvr 0, xvi k, xvu, xvu] σ
  refine hX 400 0 _ _ ?_
  refine And.intro (Nat.le_of_ble_eq_true rfl) ?_
  show xw _ _ _ _ _ _ _ _ _ _ [xvr 0, xvi k, xvi 0, xvu] _ _
  refine And.intro (Nat.le_of_ble_eq_true rfl) ?_
  show xw _ _ _ _ _ _ _ _ _ _ [xvr 0, xvi k, xvi 0, xvi 0] _ _
  have lp_4 : ∀ (m4 : Nat) (n : Int) (i : Int), ((13 - i).toNat) = m4 → ((0 ≤ i ∧ i ≤ 13) ∧ n = bkq (σ 2) k i.toNat) → X 4 [xvr 0, xvi k, xvi n, xvi i] σ := by
    intro m4
    induction m4 using Nat.strongRecOn with
    | _ m4 ih_4 =>
    intro n i hm_4 hv_4
    obtain ⟨hv_4, hn⟩ := hv_4
    have hnr := bkq_r (f := σ 2) (k := k) i.toNat
    refine hX 400 4 _ _ ?_
    refine And.intro (fun c2 => ?_) (fun c2 => ?_)
    · refine And.intro rfl ?_
      exact hQ _ (by rw [hn, show i.toNat = 13 from by omega]; rfl)
    · intro z3 t3 e3 l3 h3
      try have w3 : t3 = 0 := by omega
      -- read
      refine And.intro (rfl) (And.intro (⟨by omega, by omega⟩) ?_)
      intro v4 e4 l4 h4
      have e4 : v4 = σ 2 z3.toNat := e4
      rw [show z3.toNat = 138 + i.toNat from by omega] at e4
      intro z5 t5 e5 l5 h5
      try have w5 : t5 = 0 := by omega
      refine And.intro (fun c6 => ?_) (fun c6 => ?_)
      · intro z7 t7 e7 l7 h7
        try have w7 : t7 = 0 := by omega
        refine And.intro (Nat.le_of_ble_eq_true rfl) ?_
        show xw _ _ _ _ _ _ _ _ _ _ [xvr 0, xvi k, xvi z7, xvi i] _ _
        intro z8 t8 e8 l8 h8
        try have w8 : t8 = 0 := by omega
        show xw _ _ _ _ _ _ _ _ _ _ [xvr 0, xvi k, xvi z7, xvi z8] _ _
        exact ih_4 _ (show (13 - z8).toNat < m4 from by omega) z7 z8 rfl ⟨by omega, by
              rw [show z8.toNat = i.toNat + 1 from by omega, bkq_s]
              first | (rw [if_pos (by omega)]; omega) | (rw [if_neg (by omega)]; omega)⟩
      · intro z9 t9 e9 l9 h9
        try have w9 : t9 = 0 := by omega
        refine And.intro (Nat.le_of_ble_eq_true rfl) ?_
        show xw _ _ _ _ _ _ _ _ _ _ [xvr 0, xvi k, xvi z9, xvi i] _ _
        intro z10 t10 e10 l10 h10
        try have w10 : t10 = 0 := by omega
        show xw _ _ _ _ _ _ _ _ _ _ [xvr 0, xvi k, xvi z9, xvi z10] _ _
        exact ih_4 _ (show (13 - z10).toNat < m4 from by omega) z9 z10 rfl ⟨by omega, by
              rw [show z10.toNat = i.toNat + 1 from by omega, bkq_s]
              first | (rw [if_pos (by omega)]; omega) | (rw [if_neg (by omega)]; omega)⟩
  exact lp_4 _ 0 0 rfl ⟨by omega, rfl⟩
set_option maxHeartbeats 4000000 in
set_option maxRecDepth 100000 in
theorem s_allBooksF {σ : xS} {Q : Option xV → xS → Prop} (hQ : ∀ r : Int, (r = alq (σ 2) 13) → Q (some (xvi r)) σ) : xT kX11_allBooks [xvr 0] σ Q := by
  refine ⟨Nat.le_of_ble_eq_true rfl, fun X hX => ?_⟩
  show X 0 [xvr 0, xvu, xvu] σ
  refine hX 400 0 _ _ ?_
  refine And.intro (Nat.le_of_ble_eq_true rfl) ?_
  show xw _ _ _ _ _ _ _ _ _ _ [xvr 0, xvi 0, xvu] _ _
  refine And.intro (Nat.le_of_ble_eq_true rfl) ?_
  show xw _ _ _ _ _ _ _ _ _ _ [xvr 0, xvi 0, xvi 0] _ _
  have lp_4 : ∀ (m4 : Nat) (n : Int) (i : Int), ((13 - i).toNat) = m4 → ((0 ≤ i ∧ i ≤ 13) ∧ n = alq (σ 2) i.toNat) → X 4 [xvr 0, xvi n, xvi i] σ := by
    intro m4
    induction m4 using Nat.strongRecOn with
    | _ m4 ih_4 =>
    intro n i hm_4 hv_4
    obtain ⟨hv_4, hn⟩ := hv_4
    have hnr := alq_r (f := σ 2) i.toNat
    refine hX 400 4 _ _ ?_
    refine And.intro (fun c2 => ?_) (fun c2 => ?_)
    · refine And.intro rfl ?_
      exact hQ _ (by rw [hn, show i.toNat = 13 from by omega])
    · intro z3 t3 e3 l3 h3
      try have w3 : t3 = 0 := by omega
      -- read
      refine And.intro (rfl) (And.intro (⟨by omega, by omega⟩) ?_)
      intro v4 e4 l4 h4
      have e4 : v4 = σ 2 z3.toNat := e4
      rw [show z3.toNat = 138 + i.toNat from by omega] at e4
      refine And.intro (fun c5 => ?_) (fun c5 => ?_)
      · intro z6 t6 e6 l6 h6
        try have w6 : t6 = 0 := by omega
        refine And.intro (Nat.le_of_ble_eq_true rfl) ?_
        show xw _ _ _ _ _ _ _ _ _ _ [xvr 0, xvi z6, xvi i] _ _
        intro z7 t7 e7 l7 h7
        try have w7 : t7 = 0 := by omega
        show xw _ _ _ _ _ _ _ _ _ _ [xvr 0, xvi z6, xvi z7] _ _
        exact ih_4 _ (show (13 - z7).toNat < m4 from by omega) z6 z7 rfl ⟨by omega, by
              rw [show z7.toNat = i.toNat + 1 from by omega, alq_s]
              first | (rw [if_pos (by omega)]; omega) | (rw [if_neg (by omega)]; omega)⟩
      · intro z8 t8 e8 l8 h8
        try have w8 : t8 = 0 := by omega
        refine And.intro (Nat.le_of_ble_eq_true rfl) ?_
        show xw _ _ _ _ _ _ _ _ _ _ [xvr 0, xvi z8, xvi i] _ _
        intro z9 t9 e9 l9 h9
        try have w9 : t9 = 0 := by omega
        show xw _ _ _ _ _ _ _ _ _ _ [xvr 0, xvi z8, xvi z9] _ _
        exact ih_4 _ (show (13 - z9).toNat < m4 from by omega) z8 z9 rfl ⟨by omega, by
              rw [show z9.toNat = i.toNat + 1 from by omega, alq_s]
              first | (rw [if_pos (by omega)]; omega) | (rw [if_neg (by omega)]; omega)⟩
  exact lp_4 _ 0 0 rfl ⟨by omega, rfl⟩
set_option maxHeartbeats 4000000 in
set_option maxRecDepth 100000 in
theorem s_whyOfF {σ : xS} {a b kind : Int} {Q : Option xV → xS → Prop} (hp0 : V0 (σ 2)) (hp1 : 0 ≤ a ∧ a ≤ 5) (hp2 : 0 ≤ kind ∧ kind ≤ 12) (hQ : ∀ r : Int, (r = whyF (σ 2) a b kind.toNat) → Q (some (xvi r)) σ) : xT kX11_whyOf [xvr 0, xvi a, xvi b, xvi kind] σ Q := by
  refine ⟨Nat.le_of_ble_eq_true rfl, fun X hX => ?_⟩
  show X 0 [xvr 0, xvi a, xvi b, xvi kind] σ
  refine hX 400 0 _ _ ?_
  refine And.intro (rfl) (And.intro (⟨by omega, by omega⟩) ?_)
  intro v1 e1 l1 h1
  have e1 : v1 = σ 2 4 := e1
  refine And.intro (fun c2 => ?_) (fun c2 => ?_)
  · refine And.intro (rfl) (And.intro (⟨by omega, by omega⟩) ?_)
    intro v3 e3 l3 h3
    have e3 : v3 = σ 2 4 := e3
    refine And.intro (fun c4 => ?_) (fun c4 => ?_)
    · refine s_hand0v (σ := σ) (k := a) (kind := kind) hp0 hp1 hp2 (fun r5 p5 => ?_)
      rw [show (60 + 13 * a + kind).toNat = 60 + 13 * a.toNat + kind.toNat from by omega] at p5
      have p5 : r5 = HH (σ 2) a.toNat kind.toNat := p5
      refine And.intro (fun c6 => ?_) (fun c6 => ?_)
      · refine And.intro (fun c7 => ?_) (fun c7 => ?_)
        · refine And.intro rfl ?_
          exact hQ _ (by unfold whyF; rw [if_neg (by omega), if_neg (by omega), if_neg (by omega), if_neg (by omega)])
        · refine And.intro rfl ?_
          exact hQ _ (by unfold whyF; rw [if_neg (by omega), if_neg (by omega), if_neg (by omega), if_pos (by omega)])
      · refine And.intro rfl ?_
        exact hQ _ (by unfold whyF; rw [if_neg (by omega), if_neg (by omega), if_pos (by omega)])
    · refine And.intro rfl ?_
      exact hQ _ (by unfold whyF; rw [if_neg (by omega), if_pos (by omega)])
  · refine And.intro rfl ?_
    exact hQ _ (by unfold whyF; rw [if_pos (by omega)])
