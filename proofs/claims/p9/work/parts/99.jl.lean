/-! The class's play, exactly. -/
/-- the rules on the tape, as the class wants them -/
def RLC (f b : Nat → Int) (len n : Int) : Prop := (1 ≤ n ∧ n ≤ 400) ∧ 1 ≤ f 1 ∧ len = f 1 ∧ ∀ k : Nat, (k : Int) < f 1 → 0 ≤ b k ∧ b k ≤ 3
def RT1 (σ : xS) : Prop := ¬ σ 2 1 = 0 ∧ σ 0 1 = σ 2 1 ∧ ∀ k : Nat, (k : Int) < σ 2 1 → 0 ≤ σ 1 k ∧ σ 1 k ≤ 3
/-- what the class's play does -/
def PLC (f R : Nat → Int) (n : Int) (w : Nat → Bool) (σ : xS) (r : Int) (w' : Nat → Bool) (σ' : xS) : Prop := σ' 0 1 = 0 ∧ ((¬ RLC f (σ 1) (σ 0 1) n ∧ r = -1 ∧ w' = w ∧ STC σ σ') ∨ (RLC f (σ 1) (σ 0 1) n ∧ r = 0 ∧ w' = w ∧ STC σ σ' ∧ (2 ≤ f 1 → plyD f R n.toNat = 0)) ∨ (RLC f (σ 1) (σ 0 1) n ∧ 0 < r ∧ 2 ≤ f 1 ∧ r = plyD f R n.toNat ∧ kpG w σ w' σ' f ∧ gmC 2 σ' (plyN f R n.toNat) ∧ (∀ j : Nat, j < 6 → σ' 3 j = σ 3 j) ∧ (∀ i : Nat, i < 8 → σ' 43 i = plyR (σ 43) f R n.toNat i) ∧ σ' 40 = σ 40))
def playEF : vE := fun w as σ Q => ∃ (n : Int) (f R : Nat → Int), as = [xvr 0, xvi n] ∧ JW w σ ∧ gmC 2 σ f ∧ TV f ∧ (RLC f (σ 1) (σ 0 1) n → ∀ k : Nat, (k : Int) < f 1 → σ 1 k = R k) ∧ ∀ (r : Int) w' σ', JW w' σ' → KT σ σ' → PLC f R n w σ r w' σ' → Q (some (xvi r)) w' σ'
/-- the class's play before it keeps the trial -/
def PLM (f R : Nat → Int) (n : Int) (σ σ' : xS) (done : Int) : Prop := 0 < done ∧ RLC f (σ 1) (σ 0 1) n ∧ 2 ≤ f 1 ∧ done = plyD f R n.toNat ∧ (gmC 15 σ' f ∧ ∀ j : Nat, j < 6 → σ' 16 j = σ 3 j) ∧ gmC 2 σ' (plyN f R n.toNat) ∧ (∀ j : Nat, j < 6 → σ' 3 j = σ 3 j) ∧ ∀ i : Nat, i < 8 → σ' 43 i = plyR (σ 43) f R n.toNat i
theorem JG.askd {σ σ' : xS} {g : Nat → Int} (h : JG (xsel [2, 3, 4, 5, 6, 7, 8, 9, 10, 11, 12, 13, 14] σ)) (hg : gmC 2 σ' g) (hv : V0 g) (e6 : σ' 6 = σ 6) (z : ∀ j : Nat, j ∉ [8, 14, 15, 16] → σ' 2 j = σ 2 j) : JG (xsel [2, 3, 4, 5, 6, 7, 8, 9, 10, 11, 12, 13, 14] σ') := by
  refine ⟨GR.cg hg.1 hv, ?_, fun i hi => ?_⟩
  · show σ' 2 2 = 0 ∨ σ' 2 2 = 1
    rw [z 2 (by decide)]; exact h.2.1
  · have hi : (i : Int) < σ' 2 9 := hi
    show σ' 6 i < σ' 2 0
    rw [z 9 (by decide)] at hi
    rw [z 0 (by decide), e6]; exact h.2.2 i hi
set_option maxHeartbeats 4000000 in
set_option maxRecDepth 100000 in
theorem sX10_isRuleF {σ : xS} {rule : Int} {Q : Option xV → xS → Prop} (hQ : ∀ r : Int, ((r = 1 ∧ (0 ≤ rule ∧ rule < 4)) ∨ (r = 0 ∧ ¬ (0 ≤ rule ∧ rule < 4))) → Q (some (xvi r)) σ) : xT kX10_isRule [xvr 0, xvi rule] σ Q := by
  refine ⟨Nat.le_of_ble_eq_true rfl, fun X hX => ?_⟩
  show X 0 [xvr 0, xvi rule] σ
  refine hX 400 0 _ _ ?_
  have lp_13 : ∀ (_ : Unit), (¬ (0 ≤ rule ∧ rule < 4)) → X 13 [xvr 0, xvi rule] σ := by
    intro _ hv_13
    refine hX 400 13 _ _ ?_
    refine And.intro rfl ?_
    refine And.intro (by omega) ?_
    exact hQ _ (show (0 = 1 ∧ (0 ≤ rule ∧ rule < 4)) ∨ (0 = 0 ∧ ¬ (0 ≤ rule ∧ rule < 4)) from by first | trivial | omega)
  refine And.intro (fun c2 => ?_) (fun c2 => ?_)
  · exact lp_13 () (show ¬ (0 ≤ rule ∧ rule < 4) from by first | trivial | omega | (refine ⟨by assumption, ?_⟩; omega) | (refine ⟨?_, ?_⟩ <;> omega))
  · refine And.intro (fun c3 => ?_) (fun c3 => ?_)
    · exact lp_13 () (show ¬ (0 ≤ rule ∧ rule < 4) from by first | trivial | omega | (refine ⟨by assumption, ?_⟩; omega) | (refine ⟨?_, ?_⟩ <;> omega))
    · refine And.intro rfl ?_
      refine And.intro (by omega) ?_
      exact hQ _ (show (1 = 1 ∧ (0 ≤ rule ∧ rule < 4)) ∨ (1 = 0 ∧ ¬ (0 ≤ rule ∧ rule < 4)) from by first | trivial | omega)
set_option maxHeartbeats 4000000 in
set_option maxRecDepth 100000 in
theorem sX10_hasRulesF {σ : xS} {Q : Option xV → xS → Prop} (hp0 : 0 ≤ σ 2 1 ∧ σ 2 1 ≤ 6) (hp1 : 0 ≤ σ 0 1 ∧ σ 0 1 ≤ 940) (hQ : ∀ r : Int, ((r = 1 ∧ RT1 σ) ∨ (r = 0 ∧ ¬ RT1 σ)) → Q (some (xvi r)) σ) : xT kX10_hasRulesOnTape [xvr 0] σ Q := by
  refine ⟨Nat.le_of_ble_eq_true rfl, fun X hX => ?_⟩
  show X 0 [xvr 0, xvu] σ
  refine hX 400 0 _ _ ?_
  have lp_24 : ∀ (_ : Unit), (¬ RT1 σ) → X 24 [xvr 0, xvu] σ := by
    intro _ hv_24
    refine hX 400 24 _ _ ?_
    refine And.intro rfl ?_
    refine And.intro (by omega) ?_
    exact hQ _ (Or.inr ⟨rfl, hv_24⟩)
  intro v2 e2 l2 h2
  have e2 : v2 = σ 2 1 := e2
  refine And.intro (fun c3 => ?_) (fun c3 => ?_)
  · exact lp_24 () (fun z => by have z1 := z.1; have z2 := z.2.1; omega)
  · intro v4 e4 l4 h4
    have e4 : v4 = σ 0 1 := e4
    intro v5 e5 l5 h5
    have e5 : v5 = σ 2 1 := e5
    refine And.intro (fun c6 => ?_) (fun c6 => ?_)
    · refine And.intro (Nat.le_of_ble_eq_true rfl) ?_
      show xw _ _ _ _ _ _ _ _ _ _ [xvr 0, xvi 0] _ _
      have lp_28 : ∀ (m28 : Nat) (i : Int), ((6 - i).toNat) = m28 → ((0 ≤ i ∧ i ≤ σ 2 1) ∧ ∀ k : Nat, (k : Int) < i → 0 ≤ σ 1 k ∧ σ 1 k ≤ 3) → X 28 [xvr 0, xvi i] σ := by
        intro m28
        induction m28 using Nat.strongRecOn with
        | _ m28 ih_28 =>
        intro i hm_28 hv_28
        have hv := hv_28
        have hv1 := hv.1
        refine hX 400 28 _ _ ?_
        intro v8 e8 l8 h8
        have e8 : v8 = σ 2 1 := e8
        refine And.intro (fun c9 => ?_) (fun c9 => ?_)
        · refine And.intro rfl ?_
          refine And.intro (by omega) ?_
          exact hQ _ (Or.inl ⟨rfl, by omega, by omega, fun k hk => hv.2 k (by omega)⟩)
        · refine And.intro (Or.inl rfl) (And.intro (⟨by omega, by omega⟩) ?_)
          intro v10 e10 l10 h10
          have e10 : v10 = σ 1 i.toNat := e10
          rw [show i.toNat = i.toNat from by omega] at e10
          refine sX10_isRuleF (σ := σ) (rule := v10) (fun r11 p11 => ?_)
          refine And.intro (fun c12 => ?_) (fun c12 => ?_)
          · replace p11 : 0 ≤ v10 ∧ v10 < 4 := by
              rcases p11 with q | q
              · exact q.2
              · exact absurd q.1 (by omega)
            intro z13 t13 e13 l13 h13
            try have w13 : t13 = 0 := by omega
            show xw _ _ _ _ _ _ _ _ _ _ [xvr 0, xvi z13] _ _
            exact ih_28 _ (show (6 - z13).toNat < m28 from by omega) z13 rfl ⟨by omega, fun k hk => by
                    by_cases c : k = i.toNat
                    · rw [c]; omega
                    · exact hv.2 k (by omega)⟩
          · replace p11 : ¬ (0 ≤ v10 ∧ v10 < 4) := by
              rcases p11 with q | q
              · exact absurd q.1 (by omega)
              · exact q.2
            refine And.intro rfl ?_
            refine And.intro (by omega) ?_
            exact hQ _ (Or.inr ⟨rfl, fun z => by
              have z3 := z.2.2 i.toNat (by omega)
              omega⟩)
      exact lp_28 _ 0 rfl ⟨by omega, fun k hk => absurd hk (by omega)⟩
    · exact lp_24 () (fun z => by have z1 := z.1; have z2 := z.2.1; omega)
