set_option maxHeartbeats 4000000 in
set_option maxRecDepth 100000 in
theorem sX6_isPersonF {σ : xS} {Q : Option xV → xS → Prop} (hp0 : 0 ≤ σ 3 1 ∧ σ 3 1 ≤ 6) (hp1 : σ 0 9 = 0) (hQ : ∀ r : Int, ∀ σ' : xS, Fr [] [9, 10] σ σ' → ((r = 1 ∧ σ 0 5 = 300 ∧ ¬ fnd (σ 4) (σ 3 1).toNat (σ 0 8) = -1 ∧ σ' 0 9 = 0) ∨ (r = 0 ∧ ¬ σ 0 5 = 300 ∧ σ' 0 9 = 1 ∧ σ' 0 10 = σ 0 6) ∨ (r = 0 ∧ σ 0 5 = 300 ∧ fnd (σ 4) (σ 3 1).toNat (σ 0 8) = -1 ∧ σ' 0 9 = 3 ∧ σ' 0 10 = σ 0 6)) → Q (some (xvi r)) σ') : xT kX6_isPerson [xvr 0, xvr 3] σ Q := by
  refine ⟨Nat.le_of_ble_eq_true rfl, fun X hX => ?_⟩
  show X 0 [xvr 0, xvr 3] σ
  have hF : Fr [] [9, 10] σ σ := Fr.rf
  refine hX 400 0 _ _ ?_
  refine xMVp (sh := shQ) (ci := 6) (τ := [0, 1, 2]) (E := xT kX6_isAt) (t := 0) (r := [xvi 300]) (σ := σ) rfl rfl xbk_sel (fun Q1 hQ1 => sX6_isAt (σ := xsel [0, 1, 2] σ) (wanted := 300)  (fun r1 p1 => hQ1 _ ?_))
  have p1 : (r1 = 1 ∧ (σ 0 5) = 300) ∨ (r1 = 0 ∧ ¬ (σ 0 5) = 300) := p1
  refine And.intro (fun c2 => ?_) (fun c2 => ?_)
  · replace p1 : (σ 0 5) = 300 := by
      rcases p1 with q | q
      · exact q.2
      · exact absurd q.1 (by omega)
    intro v3 e3 l3 h3
    have e3 : v3 = σ 0 8 := e3
    -- find
    refine xMVp (sh := shQ) (ci := 2) (τ := [3, 4, 5, 6, 7, 8, 9, 10, 11, 12, 13, 14, 15]) (E := xT kX2_find) (t := 3) (r := [xvl v3]) (σ := σ) rfl rfl xbk_sel (fun Q4 hQ4 => sX2_findF (σ := xsel [3, 4, 5, 6, 7, 8, 9, 10, 11, 12, 13, 14, 15] σ) (name := v3) (show 0 ≤ (σ 3 1) ∧ (σ 3 1) ≤ 6 from by omega) (fun r4 p4 => hQ4 _ ?_))
    have p4 : r4 = fnd (σ 4) ((σ 3 1)).toNat v3 := p4
    rw [show v3 = σ 0 8 from by omega] at p4
    refine And.intro (fun c5 => ?_) (fun c5 => ?_)
    · refine hX 400 36 _ _ ?_
      refine And.intro rfl ?_
      refine And.intro (by omega) ?_
      exact hQ _ _ hF (show (1 = 1 ∧ σ 0 5 = 300 ∧ ¬ fnd (σ 4) (σ 3 1).toNat (σ 0 8) = -1 ∧ (σ 0 9) = 0) ∨ (1 = 0 ∧ ¬ σ 0 5 = 300 ∧ (σ 0 9) = 1 ∧ (σ 0 10) = σ 0 6) ∨ (1 = 0 ∧ σ 0 5 = 300 ∧ fnd (σ 4) (σ 3 1).toNat (σ 0 8) = -1 ∧ (σ 0 9) = 3 ∧ (σ 0 10) = σ 0 6) from by first | trivial | omega)
    · refine xMVf (sh := shQ) (ci := 6) (τ := [0, 1, 2]) (E := xT kX6_fail) (t := 0) (r := [xvi 3]) (σ := σ) rfl rfl (fun Q6 hQ6 => sX6_failF (σ := xsel [0, 1, 2] σ) (kind := 3) (show (σ 0 9) = 0 from by omega) (fun r6 ς6 f6 p6 => hQ6 _ _ ?_))
      have kq6_2 : (xbk [0, 1, 2] σ ς6) 0 2 = σ 0 2 := f6.2 2 (by decide)
      have kq6_4 : (xbk [0, 1, 2] σ ς6) 0 4 = σ 0 4 := f6.2 4 (by decide)
      have kq6_5 : (xbk [0, 1, 2] σ ς6) 0 5 = σ 0 5 := f6.2 5 (by decide)
      have kq6_7 : (xbk [0, 1, 2] σ ς6) 0 7 = σ 0 7 := f6.2 7 (by decide)
      have kq6_8 : (xbk [0, 1, 2] σ ς6) 0 8 = σ 0 8 := f6.2 8 (by decide)
      replace f6 : Fr [] [9, 10] σ (xbk [0, 1, 2] σ ς6) := f6.bk0 (by decide) (by decide) (by decide)
      replace p6 : r6 = 0 ∧ (xbk [0, 1, 2] σ ς6) 0 9 = 3 ∧ (xbk [0, 1, 2] σ ς6) 0 10 = (σ 0 6) := p6
      generalize xbk [0, 1, 2] σ ς6 = σ6 at f6 kq6_2 kq6_4 kq6_5 kq6_7 kq6_8 p6 ⊢
      have hF := hF.tr f6 (by decide) (by decide)
      refine And.intro (fun c7 => ?_) (fun c7 => ?_)
      · refine And.intro rfl ?_
        refine And.intro (by omega) ?_
        exact hQ _ _ hF (show (0 = 1 ∧ σ 0 5 = 300 ∧ ¬ fnd (σ 4) (σ 3 1).toNat (σ 0 8) = -1 ∧ (σ6 0 9) = 0) ∨ (0 = 0 ∧ ¬ σ 0 5 = 300 ∧ (σ6 0 9) = 1 ∧ (σ6 0 10) = σ 0 6) ∨ (0 = 0 ∧ σ 0 5 = 300 ∧ fnd (σ 4) (σ 3 1).toNat (σ 0 8) = -1 ∧ (σ6 0 9) = 3 ∧ (σ6 0 10) = σ 0 6) from by first | trivial | omega)
      · refine hX 400 36 _ _ ?_
        refine And.intro rfl ?_
        refine And.intro (by omega) ?_
        exact hQ _ _ hF (show (1 = 1 ∧ σ 0 5 = 300 ∧ ¬ fnd (σ 4) (σ 3 1).toNat (σ 0 8) = -1 ∧ (σ6 0 9) = 0) ∨ (1 = 0 ∧ ¬ σ 0 5 = 300 ∧ (σ6 0 9) = 1 ∧ (σ6 0 10) = σ 0 6) ∨ (1 = 0 ∧ σ 0 5 = 300 ∧ fnd (σ 4) (σ 3 1).toNat (σ 0 8) = -1 ∧ (σ6 0 9) = 3 ∧ (σ6 0 10) = σ 0 6) from by first | trivial | omega)
  · replace p1 : ¬ (σ 0 5) = 300 := by
      rcases p1 with q | q
      · exact absurd q.1 (by omega)
      · exact q.2
    refine xMVf (sh := shQ) (ci := 6) (τ := [0, 1, 2]) (E := xT kX6_fail) (t := 0) (r := [xvi 1]) (σ := σ) rfl rfl (fun Q8 hQ8 => sX6_failF (σ := xsel [0, 1, 2] σ) (kind := 1) (show (σ 0 9) = 0 from by omega) (fun r8 ς8 f8 p8 => hQ8 _ _ ?_))
    have kq8_2 : (xbk [0, 1, 2] σ ς8) 0 2 = σ 0 2 := f8.2 2 (by decide)
    have kq8_4 : (xbk [0, 1, 2] σ ς8) 0 4 = σ 0 4 := f8.2 4 (by decide)
    have kq8_5 : (xbk [0, 1, 2] σ ς8) 0 5 = σ 0 5 := f8.2 5 (by decide)
    have kq8_7 : (xbk [0, 1, 2] σ ς8) 0 7 = σ 0 7 := f8.2 7 (by decide)
    have kq8_8 : (xbk [0, 1, 2] σ ς8) 0 8 = σ 0 8 := f8.2 8 (by decide)
    replace f8 : Fr [] [9, 10] σ (xbk [0, 1, 2] σ ς8) := f8.bk0 (by decide) (by decide) (by decide)
    replace p8 : r8 = 0 ∧ (xbk [0, 1, 2] σ ς8) 0 9 = 1 ∧ (xbk [0, 1, 2] σ ς8) 0 10 = (σ 0 6) := p8
    generalize xbk [0, 1, 2] σ ς8 = σ8 at f8 kq8_2 kq8_4 kq8_5 kq8_7 kq8_8 p8 ⊢
    have hF := hF.tr f8 (by decide) (by decide)
    refine And.intro rfl ?_
    refine And.intro (by omega) ?_
    exact hQ _ _ hF (show (r8 = 1 ∧ σ 0 5 = 300 ∧ ¬ fnd (σ 4) (σ 3 1).toNat (σ 0 8) = -1 ∧ (σ8 0 9) = 0) ∨ (r8 = 0 ∧ ¬ σ 0 5 = 300 ∧ (σ8 0 9) = 1 ∧ (σ8 0 10) = σ 0 6) ∨ (r8 = 0 ∧ σ 0 5 = 300 ∧ fnd (σ 4) (σ 3 1).toNat (σ 0 8) = -1 ∧ (σ8 0 9) = 3 ∧ (σ8 0 10) = σ 0 6) from by first | trivial | omega)
theorem FNM {nm nm' nmR : Nat → Int} {n n' w w' : Int} (h : NMR nm nmR n) (e : nm' = nm) (en : n' = n) (h0 : 0 ≤ n') (hw : WP w w') : fnd nm' n'.toNat w = fnd nmR n.toNat w' := by
  subst e; subst en
  exact NMR.f (n := n'.toNat) (fun q hq => h q (by omega)) hw
set_option maxHeartbeats 4000000 in
set_option maxRecDepth 100000 in
theorem sX2_addPersonF {σ : xS} {name : Int} {Q : Option xV → xS → Prop} (hp0 : 0 ≤ σ 0 1 ∧ σ 0 1 ≤ 5) (hQ : ∀ σ' : xS, Fr [1] [1] σ σ' → (σ' 0 = up (σ 0) 1 (σ 0 1 + 1) ∧ σ' 1 = up (σ 1) (σ 0 1).toNat name) → Q none σ') : xT kX2_addPerson [xvr 0, xvl name] σ Q := by
  refine ⟨Nat.le_of_ble_eq_true rfl, fun X hX => ?_⟩
  show X 0 [xvr 0, xvl name, xvu] σ
  have hF : Fr [1] [1] σ σ := Fr.rf
  refine hX 400 0 _ _ ?_
  intro v1 e1 l1 h1
  have e1 : v1 = σ 0 1 := e1
  refine And.intro (fun c2 => ?_) (fun c2 => ?_)
  · refine hX 400 29 _ _ ?_
    refine And.intro rfl (And.intro rfl ?_)
    exfalso; omega
  · intro v3 e3 l3 h3
    have e3 : v3 = σ 0 1 := e3
    refine And.intro rfl (And.intro (⟨by omega, by omega⟩) ?_)
    have hF := hF.pt (t := 1) (j := v3.toNat) (v := name) (by decide) (by decide)
    intro v5 e5 l5 h5
    have e5 : v5 = σ 0 1 := e5
    intro z6 t6 e6 l6 h6
    try have w6 : t6 = 0 := by omega
    have hF := hF.p (j := 1) (v := z6) (by decide)
    refine hX 400 29 _ _ ?_
    refine And.intro rfl (And.intro rfl ?_)
    exact hQ _ hF ⟨by
        show xput _ 0 1 _ 0 = _
        rw [xput_up, xput_ne (by decide), show z6 = σ 0 1 + 1 from by omega], by
        rw [xput_ne (by decide), xput_up, show v3.toNat = (σ 0 1).toNat from by omega]⟩
