theorem GL.ask {w w' : Nat → Bool} {σ σ' ς ς' : xS} {p q kind lies z r : Int} (h : GL w σ ς) (c : askCR (ς 2) p q kind lies w σ z w' σ') (fr : Fr [2, 7, 8] [0, 24, 27] ς ς') (x : (¬ (ASK (ς 2) p q kind ∧ (0 ≤ lies ∧ lies ≤ 1)) ∧ r = -1 ∧ SAMEx ς ς') ∨ ((ASK (ς 2) p q kind ∧ (0 ≤ lies ∧ lies ≤ 1)) ∧ 1 ≤ whyF (ς 2) p q kind.toNat ∧ r = -2 - whyF (ς 2) p q kind.toNat ∧ SAMEx ς ς') ∨ ((ASK (ς 2) p q kind ∧ (0 ≤ lies ∧ lies ≤ 1)) ∧ whyF (ς 2) p q kind.toNat = 0 ∧ KPT (ς 0 27) (ς' 0 27) (ς 8) (ς' 8) (ς 2) ∧ ς' 2 = askF (ς 2) p.toNat q.toNat kind.toNat lies ∧ r = askR (ς 2) p.toNat q.toNat kind.toNat lies 3 ∧ (ς' 0 24 = 1 ∧ ∀ i : Nat, i < 8 → ς' 7 i = askR (ς 2) p.toNat q.toNat kind.toNat lies i))) : GL w' σ' ς' ∧ z = r := by
  have e5 : ς' 5 = ς 5 := fr.1 5 (by decide) (by decide)
  have e25 : ς' 25 = ς 25 := fr.1 25 (by decide) (by decide)
  have e26 : ς' 26 = ς 26 := fr.1 26 (by decide) (by decide)
  have e27 : ς' 27 = ς 27 := fr.1 27 (by decide) (by decide)
  rcases c with ⟨c1, c2, rfl, c4⟩ | ⟨c1, c2, c3, rfl, c5⟩ | ⟨c1, c2, c3, c4, c5, c6, c7⟩
  · rcases x with ⟨x1, x2, x3⟩ | ⟨x1, _⟩ | ⟨x1, _⟩
    · exact ⟨(h.cls (STW.all c4)).sm x3 e5 e25 e26 e27, by omega⟩
    · exact absurd x1 c1
    · exact absurd x1 c1
  · rcases x with ⟨x1, _⟩ | ⟨x1, x2, x3, x4⟩ | ⟨x1, x2, _⟩
    · exact absurd c1 x1
    · exact ⟨(h.cls (STW.all c5)).sm x4 e5 e25 e26 e27, by omega⟩
    · omega
  · rcases x with ⟨x1, _⟩ | ⟨x1, x2, _⟩ | ⟨x1, x2, x3, x4, x5, x6, x7⟩
    · exact absurd c1 x1
    · omega
    · obtain ⟨⟨a1, a2, a3⟩, b, d, l⟩ := h
      obtain ⟨v1, v2⟩ := a2.ask (lies := lies) c1.1 c2
      have h3 : σ' 3 = σ 3 := c7 3 (by omega) (by omega) (by omega) (by omega)
      have e1 : ς' 2 1 = ς 2 1 := by rw [x4]; exact v2 1 (by omega)
      refine ⟨⟨⟨by rw [x4]; exact c4, by rw [x4]; exact v1, by rw [e1, e5, h3]; exact a3⟩, b.keep a2 c3 x3 (fun q hq => by rw [x4]; exact v2 q (by omega)) (fun i _ => congrFun h3 i), by rw [e25, e26, e27]; exact d.same (fun t h1 _ => c3.hi t h1), Or.inr ⟨by omega, fun i hi => (c6 i hi).trans (x7 i hi).symm⟩⟩, by omega⟩
theorem GL.deal {w w' : Nat → Bool} {σ σ' ς ς' : xS} {n seed z r : Int} (h : GL w σ ς) (c : dealCR (ς 2) n seed w σ z w' σ') (fr : Fr [2, 8, 21] [0, 27, 49] ς ς') (x : (DLc2 (ς 2) n ∧ r = 1 ∧ KPT (ς 0 27) (ς' 0 27) (ς 8) (ς' 8) (ς 2) ∧ ς' 2 = dealF (ς 2) n seed) ∨ (¬ DLc2 (ς 2) n ∧ r = 0 ∧ SAMEx ς ς')) : GL w' σ' ς' ∧ z = r := by
  have e5 : ς' 5 = ς 5 := fr.1 5 (by decide) (by decide)
  have e7 : ς' 7 = ς 7 := fr.1 7 (by decide) (by decide)
  have e25 : ς' 25 = ς 25 := fr.1 25 (by decide) (by decide)
  have e26 : ς' 26 = ς 26 := fr.1 26 (by decide) (by decide)
  have e27 : ς' 27 = ς 27 := fr.1 27 (by decide) (by decide)
  have e24 : ς' 0 24 = ς 0 24 := fr.2 24 (by decide)
  rcases c with ⟨c1, c2, rfl, c4⟩ | ⟨c1, c2, c3, c4, c5⟩
  · rcases x with ⟨x1, _⟩ | ⟨x1, x2, x3⟩
    · exact absurd x1 c1
    · exact ⟨(h.cls (STW.all c4)).sm x3 e5 e25 e26 e27, by omega⟩
  · rcases x with ⟨x1, x2, x3, x4⟩ | ⟨x1, _⟩
    · obtain ⟨⟨a1, a2, a3⟩, b, d, l⟩ := h
      have m := a2.1.1.1.1
      obtain ⟨hn, k1, k0, _⟩ := c1
      obtain ⟨v1, v2, _, v4⟩ := dealF_v (f := ς 2) (n := n) (seed := seed) (by have := m.1; omega) (by have := m.2.1; omega) m.2.2.1 hn a2.1.2.1
      have h3 : σ' 3 = σ 3 := c5 3 (by omega) (by omega) (by omega)
      have e1 : ς' 2 1 = ς 2 1 := by rw [x4]; exact v2 1 (by omega)
      refine ⟨⟨⟨by rw [x4]; exact c4, by rw [x4]; exact ⟨v1, v4⟩, by rw [e1, e5, h3]; exact a3⟩, b.keep a2 c3 x3 (fun q hq => by rw [x4]; exact v2 q (by omega)) (fun i _ => congrFun h3 i), by rw [e25, e26, e27]; exact d.same (fun t h1 _ => c3.hi t h1), ?_⟩, by omega⟩
      rw [e24, e7]
      unfold LATL
      rw [c5 43 (by omega) (by omega) (by omega)]; exact l
    · exact absurd c1 x1
/-- what undo wants to know of what is kept -/
theorem GL.und {w : Nat → Bool} {σ ς : xS} (h : GL w σ ς) : ∃ i : Nat, (i < 8 ∧ (i : Int) = lstF (σ 39 1)) ∧ (1 ≤ σ 39 2 → w (1 + i) = true ∧ gmC (47 + 13 * i) σ (bkR (ς 2) (ς 8) (ς 0 27 - 1).toNat)) := by
  obtain ⟨_, ⟨b1, b2, b3, b4⟩, _⟩ := h
  refine ⟨(lstF (σ 39 1)).toNat, ⟨by unfold lstF; split <;> omega, by unfold lstF; split <;> omega⟩, fun hm => ?_⟩
  have hx : rix (σ 39 1) (ς 0 27) (ς 0 27 - 1).toNat = (lstF (σ 39 1)).toNat := by
    unfold rix lstF
    split <;> omega
  obtain ⟨d1, d2, _⟩ := b4 (ς 0 27 - 1).toNat (by omega)
  rw [hx] at d1 d2
  exact ⟨d1, d2⟩
theorem GL.undo {w : Nat → Bool} {σ σ' ς ς' : xS} {i : Nat} {z r : Int} (h : GL w σ ς) (hi : i < 8 ∧ (i : Int) = lstF (σ 39 1)) (c : undoCR i (bkR (ς 2) (ς 8) (ς 0 27 - 1).toNat) σ z σ') (fr : Fr [2] [0, 27] ς ς') (x : (ς 0 27 = 0 ∧ r = -1 ∧ ς' 0 27 = ς 0 27 ∧ ς' 2 = ς 2) ∨ (¬ ς 0 27 = 0 ∧ r = ς 0 27 - 1 ∧ ς' 0 27 = ς 0 27 - 1 ∧ (∀ q : Nat, q < 4 ∨ 584 ≤ q → ς' 2 q = ς 2 q) ∧ ∀ q : Nat, q < 580 → ς' 2 (4 + q) = bkj (ς 8) (ς 0 27 - 1).toNat q)) : GL w σ' ς' ∧ z = r := by
  have e5 : ς' 5 = ς 5 := fr.1 5 (by decide) (by decide)
  have e7 : ς' 7 = ς 7 := fr.1 7 (by decide) (by decide)
  have e8 : ς' 8 = ς 8 := fr.1 8 (by decide) (by decide)
  have e25 : ς' 25 = ς 25 := fr.1 25 (by decide) (by decide)
  have e26 : ς' 26 = ς 26 := fr.1 26 (by decide) (by decide)
  have e27 : ς' 27 = ς 27 := fr.1 27 (by decide) (by decide)
  have e24 : ς' 0 24 = ς 0 24 := fr.2 24 (by decide)
  have h39 : σ 39 2 = ς 0 27 := h.2.1.1
  rcases c with ⟨c1, c2, c4⟩ | ⟨c1, c2, c3, c4, ⟨c5, c6⟩, c7⟩
  · rcases x with ⟨x1, x2, x3, x4⟩ | ⟨x1, _⟩
    · exact ⟨(h.cls (STW.all c4)).rr (fun i _ => congrFun x4 i) (fun q _ => congrFun e5 q) e7 e8 e25 e26 e27 e24 x3, by omega⟩
    · omega
  · rcases x with ⟨x1, _⟩ | ⟨x1, x2, x3, x4, x5⟩
    · omega
    · obtain ⟨⟨a1, a2, a3⟩, ⟨b1, b2, b3, b4⟩, d, l⟩ := h
      have hx : rix (σ 39 1) (ς 0 27) (ς 0 27 - 1).toNat = i := by
        have z := hi.2
        unfold lstF at z
        unfold rix
        split at z <;> omega
      obtain ⟨d1, d2, d3, d4⟩ := b4 (ς 0 27 - 1).toNat (by omega)
      rw [hx] at d4
      have er : ∀ q, ς' 2 q = bkR (ς 2) (ς 8) (ς 0 27 - 1).toNat q := fun q => by
        unfold bkR
        by_cases c : q < 4 ∨ 584 ≤ q
        · rw [if_pos c]; exact x4 q c
        · rw [if_neg c]
          have z := x5 (q - 4) (by omega)
          rw [show 4 + (q - 4) = q from by omega] at z
          exact z
      have e3 : ∀ j : Nat, j < 6 → σ' 3 j = σ 3 j := fun j hj => (c4 j hj).trans (d4 j hj)
      have m1 := a2.1.1.1.1.2.1
      have e47 : ∀ t, 39 < t → σ' t = σ t := fun t ht => c7 t (by omega) (by omega)
      refine ⟨⟨⟨c3.c5 (fun q _ => er q), d3.c5 (fun q _ => er q), ?_⟩, ⟨by omega, by omega, by omega, fun j hj => ?_⟩, by rw [e25, e26, e27]; exact d.same (fun t h1 _ => e47 t (by omega)), ?_⟩, by omega⟩
      · rw [x4 1 (by omega), e5]
        exact a3.cg (fun q hq => e3 q (by omega)) (fun _ _ => rfl)
      · have hr : rix (σ' 39 1) (ς' 0 27) j = rix (σ 39 1) (ς 0 27) j := by
          have z := hi.2
          unfold lstF at z
          unfold rix
          split at z <;> omega
        obtain ⟨k1, k2, k3, k4⟩ := b4 j (by omega)
        have hlt := rix_lt (top := σ 39 1) (m := ς 0 27) (j := j)
        have eb : ∀ q, q < 584 → bkR (ς' 2) (ς' 8) j q = bkR (ς 2) (ς 8) j q := fun q hq => by
          rw [e8]
          unfold bkR
          by_cases c : q < 4 ∨ 584 ≤ q
          · rw [if_pos c, if_pos c]; exact x4 q c
          · rw [if_neg c, if_neg c]
        rw [hr]
        exact ⟨k1, (k2.eq (fun t h1 h2 => e47 t (by omega))).c5 eb, k3.c5 eb, fun i2 hi2 => by rw [e47 _ (by omega), k4 i2 hi2, e3 i2 hi2]⟩
      · rw [e24, e7]
        unfold LATL
        rw [e47 43 (by omega)]; exact l

