set_option maxHeartbeats 4000000 in
set_option maxRecDepth 100000 in
theorem s_common {σ : xS} {a b : Int} {Q : Option xV → xS → Prop} (hp0 : 0 ≤ a ∧ 0 ≤ b) (hQ : ∀ r : Int, (0 ≤ r ∧ (r = 0 → a = 0 ∧ b = 0)) → Q (some (xvl r)) σ) : xT kX11_common [xvl a, xvl b] σ Q := by
  refine ⟨Nat.le_of_ble_eq_true rfl, fun X hX => ?_⟩
  show X 0 [xvl a, xvu, xvl b, xvu, xvu, xvu, xvu, xvu, xvu, xvu] σ
  refine hX 400 0 _ _ ?_
  refine And.intro (Nat.le_of_ble_eq_true rfl) ?_
  show xw _ _ _ _ _ _ _ _ _ _ [xvl a, xvu, xvl b, xvu, xvl a, xvu, xvu, xvu, xvu, xvu] _ _
  refine And.intro (Nat.le_of_ble_eq_true rfl) ?_
  show xw _ _ _ _ _ _ _ _ _ _ [xvl a, xvu, xvl b, xvu, xvl a, xvu, xvl b, xvu, xvu, xvu] _ _
  have lp_6 : ∀ (m6 : Nat) (x : Int) (y : Int) (u1_8 : xV) (u1_9 : xV), (y.toNat) = m6 → ((0 ≤ x ∧ 0 ≤ y ∧ (x = 0 → y = 0 → a = 0 ∧ b = 0))) → X 6 [xvl a, xvu, xvl b, xvu, xvl x, xvu, xvl y, xvu, u1_8, u1_9] σ := by
    intro m6
    induction m6 using Nat.strongRecOn with
    | _ m6 ih_6 =>
    intro x y u1_8 u1_9 hm_6 hv_6
    refine hX 400 6 _ _ ?_
    intro z2 a2 b2 c2 l2 h2
    refine And.intro (fun c3 => ?_) (fun c3 => ?_)
    · refine And.intro rfl (And.intro rfl ?_)
      exact hQ _ (by omega)
    · refine And.intro (by omega) ?_
      intro z4 e4 f4 l4 h4
      replace f4 := f4 (by omega) (by omega)
      have g4 := Int.emod_nonneg x (b := y) (by omega); have k4 := Int.emod_lt_of_pos x (b := y) (by omega); rw [← f4] at g4 k4
      refine And.intro (Nat.le_of_ble_eq_true rfl) ?_
      show xw _ _ _ _ _ _ _ _ _ _ [xvl a, xvu, xvl b, xvu, xvl x, xvu, xvl y, xvu, xvl z4, xvu] _ _
      refine And.intro (Nat.le_of_ble_eq_true rfl) ?_
      show xw _ _ _ _ _ _ _ _ _ _ [xvl a, xvu, xvl b, xvu, xvl y, xvu, xvl y, xvu, xvl z4, xvu] _ _
      refine And.intro (Nat.le_of_ble_eq_true rfl) ?_
      show xw _ _ _ _ _ _ _ _ _ _ [xvl a, xvu, xvl b, xvu, xvl y, xvu, xvl z4, xvu, xvl z4, xvu] _ _
      exact ih_6 _ (show z4.toNat < m6 from by omega) y z4 (xvl z4) (xvu) rfl (show (0 ≤ y ∧ 0 ≤ z4 ∧ (y = 0 → z4 = 0 → a = 0 ∧ b = 0)) from by first | trivial | omega | (refine ⟨by assumption, ?_⟩; omega) | (refine ⟨?_, ?_⟩ <;> omega))
  exact lp_6 _ a b (xvu) (xvu) rfl (show (0 ≤ a ∧ 0 ≤ b ∧ (a = 0 → b = 0 → a = 0 ∧ b = 0)) from by first | trivial | omega | (refine ⟨by assumption, ?_⟩; omega) | (refine ⟨?_, ?_⟩ <;> omega))
set_option maxHeartbeats 4000000 in
set_option maxRecDepth 100000 in
theorem s_digit {σ : xS} {code by_ : Int} {Q : Option xV → xS → Prop} (hp0 : 0 ≤ code ∧ 0 < by_) (hQ : ∀ r : Int, (0 ≤ r ∧ r ≤ 4) → Q (some (xvi r)) σ) : xT kX11_digit [xvi code, xvi by_] σ Q := by
  refine ⟨Nat.le_of_ble_eq_true rfl, fun X hX => ?_⟩
  show X 0 [xvi code, xvi by_] σ
  refine hX 400 0 _ _ ?_
  refine And.intro (by omega) ?_
  intro z1 e1 f1 l1 h1
  replace f1 := f1 (by omega) (by omega)
  have g1 := Int.ediv_nonneg (a := code) (b := by_) (by omega) (by omega); rw [← f1] at g1
  refine And.intro (by omega) ?_
  intro z2 e2 f2 l2 h2
  replace f2 := f2 (by omega) (by omega)
  refine And.intro rfl ?_
  exact hQ _ ⟨by omega, by omega⟩
