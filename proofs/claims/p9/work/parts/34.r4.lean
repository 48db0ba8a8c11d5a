set_option maxHeartbeats 4000000 in
set_option maxRecDepth 100000 in
theorem s_tries {σ : xS} {Q : Option xV → xS → Prop} (hQ : ∀ σ' : xS, Fr [9] [] σ σ' → ((∀ j : Nat, j < 580 → σ' 9 (0 + j) = σ 2 (4 + j)) ∧ (∀ j : Nat, (j < 0 ∨ 580 ≤ j) → σ' 9 j = σ 9 j)) → Q none σ') : xT kX11_tries [xvr 0] σ Q := by
  refine ⟨Nat.le_of_ble_eq_true rfl, fun X hX => ?_⟩
  show X 0 [xvr 0, xvu] σ
  have hF : Fr [9] [] σ σ := Fr.rf
  refine hX 400 0 _ _ ?_
  refine And.intro (Nat.le_of_ble_eq_true rfl) ?_
  show xw _ _ _ _ _ _ _ _ _ _ [xvr 0, xvi 0] _ _
  have lp_2 : ∀ (m2 : Nat) (i : Int) (s1 : xS), ((580 - i).toNat) = m2 → (Fr [9] [] σ s1 ∧ (∀ j : Nat, (j : Int) < i → s1 9 (0 + j) = σ 2 (4 + j)) ∧ (∀ j : Nat, (j < 0 ∨ 580 ≤ j) → s1 9 j = σ 9 j) ∧ (0 ≤ i ∧ i ≤ 580)) → X 2 [xvr 0, xvi i] s1 := by
    intro m2
    induction m2 using Nat.strongRecOn with
    | _ m2 ih_2 =>
    intro i s1 hm_2 hv_2
    obtain ⟨hF, hC, hO, hv_2⟩ := hv_2
    have hS : s1 2 = σ 2 := hF.1 2 (by decide) (by decide)
    refine hX 400 2 _ _ ?_
    refine And.intro (fun c2 => ?_) (fun c2 => ?_)
    · refine And.intro rfl (And.intro rfl ?_)
      exact hQ _ hF ⟨fun j hj => hC j (by omega), hO⟩
    · intro z3 t3 e3 l3 h3
      try have w3 : t3 = 0 := by omega
      refine And.intro (rfl) (And.intro (⟨by omega, by omega⟩) ?_)
      intro v4 e4 l4 h4
      have e4 : v4 = s1 2 z3.toNat := e4
      refine And.intro (rfl) (And.intro (⟨by omega, by omega⟩) ?_)
      have hF := hF.pt (t := 9) (j := i.toNat) (v := v4) (by decide) (by decide)
      intro z6 t6 e6 l6 h6
      try have w6 : t6 = 0 := by omega
      show xw _ _ _ _ _ _ _ _ _ _ [xvr 0, xvi z6] _ _
      exact ih_2 _ (show (580 - z6).toNat < m2 from by omega) z6 (xput s1 9 i.toNat v4) rfl ⟨hF, (fun q hq => by
                by_cases e : q = i.toNat
                · rw [show 0 + q = i.toNat from by omega, xput_s, e4, hS]; rw [show z3.toNat = 4 + q from by omega]
                · rw [xput_o (by omega)]; exact hC q (by omega)), (fun q hq => by rw [xput_o (by omega)]; exact hO q (by omega)), by omega⟩
  exact lp_2 _ 0 σ rfl ⟨hF, (fun j hj => by omega), (fun j _ => rfl), by omega⟩
set_option maxHeartbeats 4000000 in
set_option maxRecDepth 100000 in
theorem s_back {σ : xS} {Q : Option xV → xS → Prop} (hQ : ∀ σ' : xS, Fr [2] [] σ σ' → ((∀ j : Nat, j < 580 → σ' 2 (4 + j) = σ 9 (0 + j)) ∧ (∀ j : Nat, (j < 4 ∨ 584 ≤ j) → σ' 2 j = σ 2 j)) → Q none σ') : xT kX11_back [xvr 0] σ Q := by
  refine ⟨Nat.le_of_ble_eq_true rfl, fun X hX => ?_⟩
  show X 0 [xvr 0, xvu] σ
  have hF : Fr [2] [] σ σ := Fr.rf
  refine hX 400 0 _ _ ?_
  refine And.intro (Nat.le_of_ble_eq_true rfl) ?_
  show xw _ _ _ _ _ _ _ _ _ _ [xvr 0, xvi 0] _ _
  have lp_2 : ∀ (m2 : Nat) (i : Int) (s1 : xS), ((580 - i).toNat) = m2 → (Fr [2] [] σ s1 ∧ (∀ j : Nat, (j : Int) < i → s1 2 (4 + j) = σ 9 (0 + j)) ∧ (∀ j : Nat, (j < 4 ∨ 584 ≤ j) → s1 2 j = σ 2 j) ∧ (0 ≤ i ∧ i ≤ 580)) → X 2 [xvr 0, xvi i] s1 := by
    intro m2
    induction m2 using Nat.strongRecOn with
    | _ m2 ih_2 =>
    intro i s1 hm_2 hv_2
    obtain ⟨hF, hC, hO, hv_2⟩ := hv_2
    have hS : s1 9 = σ 9 := hF.1 9 (by decide) (by decide)
    refine hX 400 2 _ _ ?_
    refine And.intro (fun c2 => ?_) (fun c2 => ?_)
    · refine And.intro rfl (And.intro rfl ?_)
      exact hQ _ hF ⟨fun j hj => hC j (by omega), hO⟩
    · intro z3 t3 e3 l3 h3
      try have w3 : t3 = 0 := by omega
      refine And.intro (rfl) (And.intro (⟨by omega, by omega⟩) ?_)
      intro v4 e4 l4 h4
      have e4 : v4 = s1 9 i.toNat := e4
      refine And.intro (rfl) (And.intro (⟨by omega, by omega⟩) ?_)
      have hF := hF.pt (t := 2) (j := z3.toNat) (v := v4) (by decide) (by decide)
      intro z6 t6 e6 l6 h6
      try have w6 : t6 = 0 := by omega
      show xw _ _ _ _ _ _ _ _ _ _ [xvr 0, xvi z6] _ _
      exact ih_2 _ (show (580 - z6).toNat < m2 from by omega) z6 (xput s1 2 z3.toNat v4) rfl ⟨hF, (fun q hq => by
                by_cases e : q = i.toNat
                · rw [show 4 + q = z3.toNat from by omega, xput_s, e4, hS]; rw [show i.toNat = 0 + q from by omega]
                · rw [xput_o (by omega)]; exact hC q (by omega)), (fun q hq => by rw [xput_o (by omega)]; exact hO q (by omega)), by omega⟩
  exact lp_2 _ 0 σ rfl ⟨hF, (fun j hj => by omega), (fun j _ => rfl), by omega⟩
