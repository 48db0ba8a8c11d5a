/-- the game, what was told of the last asking and the kept games stay -/
def REPx (f : Nat → Int) (j n fr : Int) (r : Int) : Prop := (0 ≤ r ∧ r < 4) ∧ (∀ i : Nat, i < 4 → gmW f i j fr n.toNat ≤ gmW f r j fr n.toNat) ∧ ∀ i : Nat, (i : Int) < r → gmW f i j fr n.toNat < gmW f r j fr n.toNat
theorem REPx.u {f : Nat → Int} {j n fr r r' : Int} (h : REPx f j n fr r) (h' : REPx f j n fr r') : r = r' := by
  obtain ⟨a, b, c⟩ := h
  obtain ⟨a', b', c'⟩ := h'
  by_cases x : r < r'
  · have z := c' r.toNat (by omega)
    have w := b r'.toNat (by omega)
    rw [show ((r.toNat : Nat) : Int) = r from by omega] at z
    rw [show ((r'.toNat : Nat) : Int) = r' from by omega] at w
    omega
  · by_cases y : r' < r
    · have z := c r'.toNat (by omega)
      have w := b' r.toNat (by omega)
      rw [show ((r'.toNat : Nat) : Int) = r' from by omega] at z
      rw [show ((r.toNat : Nat) : Int) = r from by omega] at w
      omega
    · omega
/-- the first with the most books -/
def LDx (f : Nat → Int) (r q : Int) : Prop := (r = -1 ∧ q = 0) ∨ ((0 ≤ r ∧ r < q) ∧ (∀ p : Nat, (p : Int) < q → bksF f p ≤ bksF f r) ∧ ∀ p : Nat, (p : Int) < r → bksF f p < bksF f r)
theorem LDx.u {f : Nat → Int} {r r' q : Int} (h : LDx f r q) (h' : LDx f r' q) : r = r' := by
  rcases h with ⟨a, b⟩ | ⟨a, b, c⟩
  · rcases h' with ⟨a', _⟩ | ⟨a', _, _⟩
    · omega
    · omega
  · rcases h' with ⟨a', _⟩ | ⟨a', b', c'⟩
    · omega
    · by_cases x : r < r'
      · have z := c' r.toNat (by omega)
        have w := b r'.toNat (by omega)
        rw [show ((r.toNat : Nat) : Int) = r from by omega] at z
        rw [show ((r'.toNat : Nat) : Int) = r' from by omega] at w
        omega
      · by_cases y : r' < r
        · have z := c r'.toNat (by omega)
          have w := b' r.toNat (by omega)
          rw [show ((r'.toNat : Nat) : Int) = r' from by omega] at z
          rw [show ((r.toNat : Nat) : Int) = r from by omega] at w
          omega
        · omega
set_option maxHeartbeats 4000000 in
set_option maxRecDepth 100000 in
theorem s_areGamesF {σ : xS} {i j n : Int} {Q : Option xV → xS → Prop} (hp0 : (0 ≤ σ 2 0 ∧ σ 2 0 ≤ 13) ∧ 0 ≤ σ 2 1 ∧ σ 2 1 ≤ 6) (hQ : ∀ r : Int, ((r = 1 ∧ GMc (σ 2) i j n) ∨ (r = 0 ∧ ¬ GMc (σ 2) i j n)) → Q (some (xvi r)) σ) : xT kX11_areGames [xvr 0, xvi i, xvi j, xvi n] σ Q := by
  refine ⟨Nat.le_of_ble_eq_true rfl, fun X hX => ?_⟩
  show X 0 [xvr 0, xvi i, xvi j, xvi n] σ
  refine hX 400 0 _ _ ?_
  refine s_isIn (σ := σ) (v := i) (low := 0) (high := 3) (fun r1 p1 => ?_)
  refine And.intro (fun c2 => ?_) (fun c2 => ?_)
  · refine hX 400 61 _ _ ?_
    refine And.intro rfl ?_
    refine And.intro (by omega) ?_
    exact hQ _ (Or.inr ⟨rfl, fun z => by obtain ⟨z1, z2, z3, z4, z5⟩ := z; omega⟩)
  · refine s_isIn (σ := σ) (v := j) (low := 0) (high := 3) (fun r3 p3 => ?_)
    refine And.intro (fun c4 => ?_) (fun c4 => ?_)
    · refine hX 400 61 _ _ ?_
      refine And.intro rfl ?_
      refine And.intro (by omega) ?_
      exact hQ _ (Or.inr ⟨rfl, fun z => by obtain ⟨z1, z2, z3, z4, z5⟩ := z; omega⟩)
    · refine s_isIn (σ := σ) (v := n) (low := 1) (high := 30) (fun r5 p5 => ?_)
      refine And.intro (fun c6 => ?_) (fun c6 => ?_)
      · refine hX 400 61 _ _ ?_
        refine And.intro rfl ?_
        refine And.intro (by omega) ?_
        exact hQ _ (Or.inr ⟨rfl, fun z => by obtain ⟨z1, z2, z3, z4, z5⟩ := z; omega⟩)
      · refine And.intro (rfl) (And.intro (⟨by omega, by omega⟩) ?_)
        intro v7 e7 l7 h7
        have e7 : v7 = σ 2 1 := e7
        refine And.intro (fun c8 => ?_) (fun c8 => ?_)
        · refine hX 400 61 _ _ ?_
          refine And.intro rfl ?_
          refine And.intro (by omega) ?_
          exact hQ _ (Or.inr ⟨rfl, fun z => by obtain ⟨z1, z2, z3, z4, z5⟩ := z; omega⟩)
        · refine And.intro (rfl) (And.intro (⟨by omega, by omega⟩) ?_)
          intro v9 e9 l9 h9
          have e9 : v9 = σ 2 1 := e9
          intro z10 t10 e10 l10 h10
          try have w10 : t10 = 0 := by omega
          refine And.intro (rfl) (And.intro (⟨by omega, by omega⟩) ?_)
          intro v11 e11 l11 h11
          have e11 : v11 = σ 2 0 := e11
          intro z12 t12 e12 l12 h12
          try have w12 : t12 = 0 := by omega
          refine And.intro (fun c13 => ?_) (fun c13 => ?_)
          · refine hX 400 61 _ _ ?_
            refine And.intro rfl ?_
            refine And.intro (by omega) ?_
            exact hQ _ (Or.inr ⟨rfl, fun z => by obtain ⟨z1, z2, z3, z4, z5⟩ := z; omega⟩)
          · refine And.intro rfl ?_
            refine And.intro (by omega) ?_
            exact hQ _ (Or.inl ⟨rfl, by omega, by omega, by omega, by omega, by omega⟩)
set_option maxHeartbeats 4000000 in
set_option maxRecDepth 100000 in
theorem s_gamesF {σ : xS} {i j n fr : Int} {Q : Option xV → xS → Prop} (hp0 : RI σ) (hp1 : TV (σ 2)) (hQ : ∀ r : Int, ∀ σ' : xS, Fr [2, 7, 9, 20, 21] [0, 24, 49, 51] σ σ' → ((GMc (σ 2) i j n ∧ r = gmW (σ 2) i j fr n.toNat ∧ SAMEx σ σ') ∨ (¬ GMc (σ 2) i j n ∧ r = -1 ∧ SAMEx σ σ')) → Q (some (xvi r)) σ') : xT kX11_games [xvr 0, xvi i, xvi j, xvi n, xvi fr] σ Q := by
  refine ⟨Nat.le_of_ble_eq_true rfl, fun X hX => ?_⟩
  show X 0 [xvr 0, xvi i, xvi j, xvi n, xvi fr] σ
  have hF : Fr [2, 7, 9, 20, 21] [0, 24, 49, 51] σ σ := Fr.rf
  refine hX 400 0 _ _ ?_
  have hF := hF.p (j := 0) (v := 0) (by decide)
  have hI := (RK.rf hp0 |>.p0 (j := 0) (v := 0) (by decide) (by decide) (by decide)).1
  obtain ⟨hVx, hT2, hT6, hT4⟩ := id hp1
  have m0 := hVx.1.1.1
  have m1 := hVx.1.1.2.1
  have m3 := hVx.1.1.2.2.1
  have h27 := hp0.2.2.2.1
  refine s_areGamesF (σ := (xput σ 0 0 0)) (i := i) (j := j) (n := n) (by show (0 ≤ σ 2 0 ∧ σ 2 0 ≤ 13) ∧ 0 ≤ σ 2 1 ∧ σ 2 1 ≤ 6; omega) (fun r2 p2 => ?_)
  have p2 : (r2 = 1 ∧ GMc (σ 2) i j n) ∨ (r2 = 0 ∧ ¬ GMc (σ 2) i j n) := p2
  refine And.intro (fun c3 => ?_) (fun c3 => ?_)
  · refine And.intro rfl ?_
    exact hQ _ _ hF (Or.inr ⟨by
      rcases p2 with z | z
      · omega
      · exact z.2, rfl, ⟨rfl, rfl, rfl, rfl, rfl⟩⟩)
  · have hG0 : GMc (σ 2) i j n := by
      rcases p2 with z | z
      · exact z.2
      · omega
    obtain ⟨hA1, hA2, hA3, hA4, hA5⟩ := id hG0
    refine s_gamesOfF (σ := (xput σ 0 0 0)) (i := i) (j := j) (n := n) (fr := fr) (by show 1 ≤ σ 2 0 ∧ σ 2 0 ≤ 13; omega) (by show 2 ≤ σ 2 1 ∧ σ 2 1 ≤ 6; omega) (by show 0 ≤ σ 2 3 ∧ σ 2 3 ≤ 9; omega) (by omega) hT2 (by show 5 * σ 2 1 ≤ 4 * σ 2 0; omega) (fun r4 σ4 f4 p4 => ?_)
    have hF := hF.tr f4 (by decide) (by decide)
    have p4 : σ4 2 = σ 2 ∧ r4 = gmW (σ 2) i j fr n.toNat ∧ σ4 0 51 = gmA (σ 2) i j fr n.toNat ∧ σ4 7 = σ 7 ∧ σ4 0 24 = σ 0 24 := p4
    have k8 : σ4 8 = σ 8 := f4.1 8 (by decide) (by decide)
    have k27 : σ4 0 27 = σ 0 27 := f4.2 27 (by decide)
    refine And.intro rfl ?_
    exact hQ _ _ hF (Or.inl ⟨hG0, p4.2.1, p4.1, p4.2.2.2.1, k8, p4.2.2.2.2, k27⟩)
set_option maxHeartbeats 4000000 in
set_option maxRecDepth 100000 in
theorem s_lengthF {σ : xS} {i j n fr : Int} {Q : Option xV → xS → Prop} (hp0 : RI σ) (hp1 : TV (σ 2)) (hQ : ∀ r : Int, ∀ σ' : xS, Fr [2, 7, 9, 20, 21] [0, 24, 49, 51] σ σ' → ((GMc (σ 2) i j n ∧ r = gmA (σ 2) i j fr n.toNat ∧ SAMEx σ σ') ∨ (¬ GMc (σ 2) i j n ∧ r = -1 ∧ SAMEx σ σ')) → Q (some (xvi r)) σ') : xT kX11_length [xvr 0, xvi i, xvi j, xvi n, xvi fr] σ Q := by
  refine ⟨Nat.le_of_ble_eq_true rfl, fun X hX => ?_⟩
  show X 0 [xvr 0, xvi i, xvi j, xvi n, xvi fr] σ
  have hF : Fr [2, 7, 9, 20, 21] [0, 24, 49, 51] σ σ := Fr.rf
  refine hX 400 0 _ _ ?_
  have hF := hF.p (j := 0) (v := 0) (by decide)
  have hI := (RK.rf hp0 |>.p0 (j := 0) (v := 0) (by decide) (by decide) (by decide)).1
  obtain ⟨hVx, hT2, hT6, hT4⟩ := id hp1
  have m0 := hVx.1.1.1
  have m1 := hVx.1.1.2.1
  have m3 := hVx.1.1.2.2.1
  have h27 := hp0.2.2.2.1
  refine s_areGamesF (σ := (xput σ 0 0 0)) (i := i) (j := j) (n := n) (by show (0 ≤ σ 2 0 ∧ σ 2 0 ≤ 13) ∧ 0 ≤ σ 2 1 ∧ σ 2 1 ≤ 6; omega) (fun r2 p2 => ?_)
  have p2 : (r2 = 1 ∧ GMc (σ 2) i j n) ∨ (r2 = 0 ∧ ¬ GMc (σ 2) i j n) := p2
  refine And.intro (fun c3 => ?_) (fun c3 => ?_)
  · have hG0 : GMc (σ 2) i j n := by
      rcases p2 with z | z
      · exact z.2
      · omega
    obtain ⟨hA1, hA2, hA3, hA4, hA5⟩ := id hG0
    refine s_gamesOfF (σ := (xput σ 0 0 0)) (i := i) (j := j) (n := n) (fr := fr) (by show 1 ≤ σ 2 0 ∧ σ 2 0 ≤ 13; omega) (by show 2 ≤ σ 2 1 ∧ σ 2 1 ≤ 6; omega) (by show 0 ≤ σ 2 3 ∧ σ 2 3 ≤ 9; omega) (by omega) hT2 (by show 5 * σ 2 1 ≤ 4 * σ 2 0; omega) (fun r4 σ4 f4 p4 => ?_)
    have hF := hF.tr f4 (by decide) (by decide)
    have p4 : σ4 2 = σ 2 ∧ r4 = gmW (σ 2) i j fr n.toNat ∧ σ4 0 51 = gmA (σ 2) i j fr n.toNat ∧ σ4 7 = σ 7 ∧ σ4 0 24 = σ 0 24 := p4
    have k8 : σ4 8 = σ 8 := f4.1 8 (by decide) (by decide)
    have k27 : σ4 0 27 = σ 0 27 := f4.2 27 (by decide)
    intro v5 e5 l5 h5
    have e5 : v5 = σ4 0 51 := e5
    refine And.intro rfl ?_
    exact hQ _ _ hF (Or.inl ⟨hG0, by omega, p4.1, p4.2.2.2.1, k8, p4.2.2.2.2, k27⟩)
  · refine And.intro rfl ?_
    exact hQ _ _ hF (Or.inr ⟨by
      rcases p2 with z | z
      · omega
      · exact z.2, rfl, ⟨rfl, rfl, rfl, rfl, rfl⟩⟩)
set_option maxHeartbeats 4000000 in
set_option maxRecDepth 100000 in
theorem s_leaderF {σ : xS} {Q : Option xV → xS → Prop} (hp0 : RI σ) (hp1 : TV (σ 2)) (hQ : ∀ r : Int, ∀ σ' : xS, Fr [] [0] σ σ' → (LDx (σ 2) r (σ 2 1)) → Q (some (xvi r)) σ') : xT kX11_leader [xvr 0] σ Q := by
  refine ⟨Nat.le_of_ble_eq_true rfl, fun X hX => ?_⟩
  show X 0 [xvr 0, xvu, xvu] σ
  have hF : Fr [] [0] σ σ := Fr.rf
  refine hX 400 0 _ _ ?_
  have hF := hF.p (j := 0) (v := 0) (by decide)
  have hI := (RK.rf hp0 |>.p0 (j := 0) (v := 0) (by decide) (by decide) (by decide)).1
  obtain ⟨hVx, hT2, hT6, hT4⟩ := id hp1
  have m0 := hVx.1.1.1
  have m1 := hVx.1.1.2.1
  have m3 := hVx.1.1.2.2.1
  have h27 := hp0.2.2.2.1
  refine And.intro (Nat.le_of_ble_eq_true rfl) ?_
  show xw _ _ _ _ _ _ _ _ _ _ [xvr 0, xvi (-1), xvu] _ _
  refine And.intro (Nat.le_of_ble_eq_true rfl) ?_
  show xw _ _ _ _ _ _ _ _ _ _ [xvr 0, xvi (-1), xvi 0] _ _
  have lp_9 : ∀ (m9 : Nat) (b : Int) (q : Int), ((6 - q).toNat) = m9 → (((0 ≤ q ∧ q ≤ σ 2 1) ∧ (-1 ≤ b ∧ b ≤ 5)) ∧ LDx (σ 2) b q) → X 9 [xvr 0, xvi b, xvi q] (xput σ 0 0 0) := by
    intro m9
    induction m9 using Nat.strongRecOn with
    | _ m9 ih_9 =>
    intro b q hm_9 hv_9
    obtain ⟨hv_9, hL⟩ := hv_9
    replace hL : OPQ _ := hL
    refine hX 400 9 _ _ ?_
    refine And.intro (rfl) (And.intro (⟨by omega, by omega⟩) ?_)
    intro v3 e3 l3 h3
    have e3 : v3 = σ 2 1 := e3
    refine And.intro (fun c4 => ?_) (fun c4 => ?_)
    · refine And.intro rfl ?_
      exact hQ _ _ hF (by rw [show σ 2 1 = q from by omega]; exact hL)
    · refine And.intro (fun c5 => ?_) (fun c5 => ?_)
      · refine hX 400 36 _ _ ?_
        refine And.intro (Nat.le_of_ble_eq_true rfl) ?_
        show xw _ _ _ _ _ _ _ _ _ _ [xvr 0, xvi q, xvi q] _ _
        refine hX 400 38 _ _ ?_
        intro z6 t6 e6 l6 h6
        try have w6 : t6 = 0 := by omega
        show xw _ _ _ _ _ _ _ _ _ _ [xvr 0, xvi q, xvi z6] _ _
        exact ih_9 _ (show (6 - z6).toNat < m9 from by omega) q z6 rfl ⟨by omega, Or.inr ⟨by omega, fun p hp => by
                  by_cases e : (p : Int) = q
                  · rw [e]; exact Int.le_refl _
                  · rcases hL with ⟨x, _⟩ | ⟨x, y, w⟩
                    · omega
                    · have := y p (by omega); omega, fun p hp => by
                  rcases hL with ⟨x, _⟩ | ⟨x, y, w⟩
                  · omega
                  · have := y p (by omega); omega⟩⟩
      · refine s_booksOfF (σ := (xput σ 0 0 0)) (k := q) (by omega) (fun r7 p7 => ?_)
        have p7 : r7 = bksF (σ 2) q := p7
        refine s_booksOfF (σ := (xput σ 0 0 0)) (k := b) (by omega) (fun r8 p8 => ?_)
        have p8 : r8 = bksF (σ 2) b := p8
        refine And.intro (fun c9 => ?_) (fun c9 => ?_)
        · refine hX 400 38 _ _ ?_
          intro z10 t10 e10 l10 h10
          try have w10 : t10 = 0 := by omega
          show xw _ _ _ _ _ _ _ _ _ _ [xvr 0, xvi b, xvi z10] _ _
          exact ih_9 _ (show (6 - z10).toNat < m9 from by omega) b z10 rfl ⟨by omega, by
                rcases hL with ⟨x, _⟩ | ⟨x, y, w⟩
                · omega
                · exact Or.inr ⟨by omega, fun p hp => by
                    by_cases e : (p : Int) = q
                    · rw [e]; omega
                    · exact y p (by omega), w⟩⟩
        · refine hX 400 36 _ _ ?_
          refine And.intro (Nat.le_of_ble_eq_true rfl) ?_
          show xw _ _ _ _ _ _ _ _ _ _ [xvr 0, xvi q, xvi q] _ _
          refine hX 400 38 _ _ ?_
          intro z11 t11 e11 l11 h11
          try have w11 : t11 = 0 := by omega
          show xw _ _ _ _ _ _ _ _ _ _ [xvr 0, xvi q, xvi z11] _ _
          exact ih_9 _ (show (6 - z11).toNat < m9 from by omega) q z11 rfl ⟨by omega, Or.inr ⟨by omega, fun p hp => by
                    by_cases e : (p : Int) = q
                    · rw [e]; exact Int.le_refl _
                    · rcases hL with ⟨x, _⟩ | ⟨x, y, w⟩
                      · omega
                      · have := y p (by omega); omega, fun p hp => by
                    rcases hL with ⟨x, _⟩ | ⟨x, y, w⟩
                    · omega
                    · have := y p (by omega); omega⟩⟩
  exact lp_9 _ (-1) 0 rfl ⟨by omega, Or.inl ⟨rfl, rfl⟩⟩

