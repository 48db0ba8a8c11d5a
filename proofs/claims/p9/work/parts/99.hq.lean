/-- what stands in hands when all have theirs -/
theorem dlN_h {f S : Nat → Int} {n : Int} (hp : 0 ≤ n * f 1) (h52 : ∀ i : Nat, (i : Int) ≤ 4 * f 0 → 0 ≤ dlN f S n i 7 ∧ dlN f S n i 7 ≤ 52) : ∀ d : Nat, (n * f 1).toNat + d < (4 * f 0).toNat + 1 → ∀ j, 60 ≤ j → j < 138 → dlN f S n ((n * f 1).toNat + d) j = dlN f S n (n * f 1).toNat j
  | 0, _, _, _, _ => rfl
  | d + 1, hd', j, h1, h2 => by
    have ih := dlN_h hp h52 d (by omega) j h1 h2
    have w := h52 ((n * f 1).toNat + (d + 1)) (by omega)
    show dlN f S n ((n * f 1).toNat + d + 1) j = _
    have w' : 0 ≤ dlN f S n ((n * f 1).toNat + d + 1) 7 ∧ dlN f S n ((n * f 1).toNat + d + 1) 7 ≤ 52 := w
    rw [dlN_s, if_neg (by omega)] at w'
    rw [up_s] at w'
    rw [dlN_s, if_neg (by omega), up_n (by omega), up_n (by omega)]
    exact ih
/-- m cards were given out -/
def DRx (s : xS) (f S : Nat → Int) (n m : Int) : Prop := (∀ j, j < 78 → s 2 j = dlN f S n m.toNat (60 + j)) ∧ GC s (dlN f S n m.toNat) ∧ s 0 8 = m ∧ s 0 9 = 4 * f 0 ∧ AGn (s 4) S (4 * f 0)
theorem DRx.g0 {s : xS} {f : Nat → Int} {n seed : Int} (h0 : 1 ≤ f 0 ∧ f 0 ≤ 13) (h1 : 1 ≤ f 1 ∧ f 1 ≤ 6) (h3 : 0 ≤ f 3 ∧ f 3 ≤ 9) (hn : 1 ≤ n ∧ n ≤ 9) (hle : n * f 1 ≤ 4 * f 0) (hk : ∀ i, i < 4 → s 0 i = f i) (H : DRx s f (SHf (f 0) seed) n (n * f 1)) : G0 s (dlF f n seed) := by
  obtain ⟨a, b, c, d, e⟩ := H
  have hSv := SHf_v (K := f 0) (seed := seed) h0.1
  have hp : 0 < n * f 1 := Int.mul_pos (by omega) (by omega)
  have V := fun i hi => dlN_v (f := f) (S := SHf (f 0) seed) (n := n) h0 h1 h3 hn hSv.1 i hi
  have h52 : ∀ i : Nat, (i : Int) ≤ 4 * f 0 → 0 ≤ dlN f (SHf (f 0) seed) n i 7 ∧ dlN f (SHf (f 0) seed) n i 7 ≤ 52 := fun i hi => (V i hi).1.1.2.2.2
  obtain ⟨v1, v2, v3, v4, v5⟩ := V (4 * f 0).toNat (by omega)
  have hh : ∀ j, 60 ≤ j → j < 138 → dlF f n seed j = dlN f (SHf (f 0) seed) n (n * f 1).toNat j := fun j x y => by
    have z := dlN_h (f := f) (S := SHf (f 0) seed) (n := n) (by omega) h52 ((4 * f 0).toNat - (n * f 1).toNat) (by omega) j x y
    rw [show (n * f 1).toNat + ((4 * f 0).toNat - (n * f 1).toNat) = (4 * f 0).toNat from by omega] at z
    exact z
  have e7 : dlF f n seed 7 = 4 * f 0 - n * f 1 := by
    show dlN f (SHf (f 0) seed) n (4 * f 0).toNat 7 = _
    rw [v4]
    by_cases x : (((4 * f 0).toNat : Nat) : Int) < n * f 1
    · rw [if_pos x]; omega
    · rw [if_neg x]; omega
  refine ⟨⟨fun i hi => by rw [hk i hi]; exact (v2 i (Or.inl hi)).symm, fun j hj => by rw [a j hj, hh _ (by omega) (by omega)]⟩, b.of (fun _ _ => rfl) (fun i x y => hh i x y), ⟨⟨by rw [c, d, e7]; omega, fun i hi => ?_⟩, by omega⟩, ⟨by omega, fun i hi => ?_⟩, fun i hi => v3 i (by omega)⟩
  · rw [c, e _ (by omega)]
    exact (v5 i (by rw [e7] at hi; show (i : Int) < dlF f n seed 7; omega)).symm
  · rw [d] at hi
    rw [e i (by omega)]
    have := hSv.1 i hi
    omega
set_option maxHeartbeats 4000000 in
set_option maxRecDepth 100000 in
theorem sX2_takeCardsAwayF {σ : xS} {Q : Option xV → xS → Prop} (hQ : ∀ σ' : xS, Fr [2, 3] [8, 9] σ σ' → ((∀ i : Nat, i < 78 → σ' 2 i = 0) ∧ (∀ i : Nat, i < 6 → σ' 3 i = 0) ∧ σ' 0 8 = 0 ∧ σ' 0 9 = 0) → Q none σ') : xT kX2_takeCardsAway [xvr 0] σ Q := by
  refine ⟨Nat.le_of_ble_eq_true rfl, fun X hX => ?_⟩
  show X 0 [xvr 0] σ
  have hF : Fr [2, 3] [8, 9] σ σ := Fr.rf
  refine hX 400 0 _ _ ?_
  refine And.intro (by decide) ?_
  generalize hfl1 : xfl σ 2 78 0 = σ1
  have f1 : Fr [2] [] σ σ1 := hfl1 ▸ Fr.fl (by decide)
  have v1 : ∀ j : Nat, j < 78 → σ1 2 j = 0 := fun j hj => by rw [← hfl1]; exact xfl_in hj
  have hF := hF.tr f1 (by decide) (by decide)
  have c2 := v1
  refine And.intro (by decide) ?_
  generalize hfl2 : xfl σ1 3 6 0 = σ2
  have f2 : Fr [3] [] σ1 σ2 := hfl2 ▸ Fr.fl (by decide)
  have v2 : ∀ j : Nat, j < 6 → σ2 3 j = 0 := fun j hj => by rw [← hfl2]; exact xfl_in hj
  have hF := hF.tr f2 (by decide) (by decide)
  have hF := hF.p (j := 8) (v := 0) (by decide)
  have hF := hF.p (j := 9) (v := 0) (by decide)
  refine And.intro rfl (And.intro rfl ?_)
  exact hQ _ hF ⟨(fun i hi => (show σ2 2 i = 0 from by rw [f2.1 2 (by decide) (by decide)]; exact c2 i hi)), (fun i hi => (show σ2 3 i = 0 from v2 i hi)), rfl, rfl⟩
theorem DLc {f pk : Nat → Int} {i n p : Nat} (h : DL f pk i) (hn : i ≤ n) (e : ∀ k, k < 13 → pcx pk n k ≤ 4) (hp : p < 6) : 0 ≤ cd f p ∧ cd f p ≤ 52 := by
  have a := sm_nn (n := 13) (g := hd f p) (fun k hk => (h.b hn e hp hk).1)
  have b := sm_le (n := 13) (g := hd f p) (g' := fun _ => 4) (fun k hk => (h.b hn e hp hk).2)
  rw [smx_k 13] at b
  exact ⟨a, by show sm 13 (hd f p) ≤ 52; omega⟩
