theorem CG.o8 {σ σ' : xS} {ts js : List Nat} (h : CG (xsel [8, 9, 10, 11, 12, 13, 14, 15, 16, 17, 18, 19, 20] σ)) (hF : Fr ts js σ σ') (a8 : 8 ∉ ts) (a10 : 10 ∉ ts) (a12 : 12 ∉ ts) (a17 : 17 ∉ ts) (a18 : 18 ∉ ts) : CG (xsel [8, 9, 10, 11, 12, 13, 14, 15, 16, 17, 18, 19, 20] σ') :=
  h.eq (congrFun (hF.1 8 (by decide) a8) 0) (congrFun (hF.1 8 (by decide) a8) 1) (hF.1 10 (by decide) a10) (hF.1 12 (by decide) a12) (congrFun (hF.1 8 (by decide) a8) 8) (congrFun (hF.1 8 (by decide) a8) 9) (hF.1 18 (by decide) a18) (by show 0 ≤ σ' 17 2 ∧ σ' 17 2 ≤ 52; rw [hF.1 17 (by decide) a17]; exact h.2.2.2)
set_option maxHeartbeats 4000000 in
set_option maxRecDepth 100000 in
theorem sX4_look {σ : xS} {o : Int} {Q : Option xV → xS → Prop} (hp0 : CG (xsel [8, 9, 10, 11, 12, 13, 14, 15, 16, 17, 18, 19, 20] σ)) (hp1 : 0 ≤ o ∧ o ≤ 5) (hQ : ∀ r : Int, ∀ σ' : xS, Fr [1, 2, 3, 4, 5, 6, 7] [2, 5, 9] σ σ' → ((r = 1 ∧ (0 ≤ σ' 0 2 ∧ σ' 0 2 ≤ 12) ∧ (0 ≤ σ' 0 5 ∧ σ' 0 5 ≤ 6) ∧ (∀ i : Nat, (i : Int) < σ' 0 5 → 1 ≤ σ' 4 i ∧ σ' 4 i ≤ 4)) ∨ (r = 0 ∧ (0 : Int) ≤ 0)) → Q (some (xvi r)) σ') : xT kX4_look [xvr 0, xvr 8, xvi o] σ Q := by
  refine ⟨Nat.le_of_ble_eq_true rfl, fun X hX => ?_⟩
  show X 0 [xvr 0, xvr 8, xvi o] σ
  have hF : Fr [1, 2, 3, 4, 5, 6, 7] [2, 5, 9] σ σ := Fr.rf
  refine hX 400 0 _ _ ?_
  have hF := hF.p (j := 9) (v := 0) (by decide)
  have hC1 : CG (xsel [8, 9, 10, 11, 12, 13, 14, 15, 16, 17, 18, 19, 20] (xput σ 0 9 0)) := hp0.o8 hF (by decide) (by decide) (by decide) (by decide) (by decide)
  refine sX4_takeSlots (σ := (xput σ 0 9 0)) (o := o) hC1 (fun r2 σ2 f2 p2 => ?_)
  have hF := hF.tr f2 (by decide) (by decide)
  refine And.intro (fun c3 => ?_) (fun c3 => ?_)
  · refine hX 400 23 _ _ ?_
    refine And.intro rfl ?_
    refine And.intro (by omega) ?_
    exact hQ _ _ hF (Or.inr ⟨by omega, by omega⟩)
  · have hC2 : CG (xsel [8, 9, 10, 11, 12, 13, 14, 15, 16, 17, 18, 19, 20] σ2) := hp0.o8 hF (by decide) (by decide) (by decide) (by decide) (by decide)
    refine sX4_takeKinds (σ := σ2) (o := o) hC2 (by omega) (fun r4 σ4 f4 p4 => ?_)
    have hF := hF.tr f4 (by decide) (by decide)
    have k02 : σ4 0 2 = σ2 0 2 := f4.2 2 (by decide)
    refine And.intro (fun c5 => ?_) (fun c5 => ?_)
    · have hoi : (0 ≤ σ4 0 2 ∧ σ4 0 2 ≤ 12) ∧ (0 ≤ σ4 0 5 ∧ σ4 0 5 ≤ 6) ∧ (∀ i : Nat, (i : Int) < σ4 0 5 → 1 ≤ σ4 4 i ∧ σ4 4 i ≤ 4) := by
        rcases p2 with z | z
        · rcases p4 with y | y
          · exact ⟨by omega, y.2.1, y.2.2⟩
          · exfalso; omega
        · exfalso; omega
      clear p2 p4
      refine xMVf (sh := shO) (ci := 4) (τ := [0, 1, 2, 3, 4, 5, 6, 7]) (E := xT kX4_countWays) (t := 0) (r := [xvi (-1), xvi 0]) (σ := σ4) rfl rfl (fun Q6 hQ6 => sX4_countWays (σ := xsel [0, 1, 2, 3, 4, 5, 6, 7] σ4) (person := (-1)) (kind := 0) (show 0 ≤ (σ4 0 5) ∧ (σ4 0 5) ≤ 6 from hoi.2.1) (show ∀ i : Nat, (i : Int) < (σ4 0 5) → 0 ≤ σ4 4 i ∧ σ4 4 i ≤ 4 from fun i hi => (by have z := hoi.2.2 i hi; exact ⟨by omega, z.2⟩)) (show 0 ≤ (σ4 0 2) ∧ (σ4 0 2) ≤ 12 from hoi.1) (fun r6 ς6 f6 => hQ6 _ _ ?_))
      replace f6 : Fr [5, 6, 7] [] σ4 (xbk [0, 1, 2, 3, 4, 5, 6, 7] σ4 ς6) := f6.bk0 (by decide) (by decide) (by decide)
      generalize xbk [0, 1, 2, 3, 4, 5, 6, 7] σ4 ς6 = σ6 at f6  ⊢
      have hF := hF.tr f6 (by decide) (by decide)
      have k2_6 : σ6 0 2 = σ4 0 2 := f6.2 2 (by decide)
      have k5_6 : σ6 0 5 = σ4 0 5 := f6.2 5 (by decide)
      have k4_6 : σ6 4 = σ4 4 := f6.1 4 (by decide) (by decide)
      have hoi2 : (0 ≤ σ6 0 2 ∧ σ6 0 2 ≤ 12) ∧ (0 ≤ σ6 0 5 ∧ σ6 0 5 ≤ 6) ∧ (∀ i : Nat, (i : Int) < σ6 0 5 → 1 ≤ σ6 4 i ∧ σ6 4 i ≤ 4) := by rw [k2_6, k5_6, k4_6]; exact hoi
      have hF := hF.p (j := 9) (v := r6) (by decide)
      intro v8 e8 l8 h8
      have e8 : v8 = r6 := e8
      intro z9 a9 b9 c9 l9 h9
      refine And.intro (fun c10 => ?_) (fun c10 => ?_)
      · refine And.intro rfl ?_
        refine And.intro (by omega) ?_
        exact hQ _ _ hF (Or.inr ⟨by omega, by omega⟩)
      · refine And.intro rfl ?_
        refine And.intro (by omega) ?_
        exact hQ _ _ hF (Or.inl ⟨rfl, hoi2⟩)
    · refine hX 400 23 _ _ ?_
      refine And.intro rfl ?_
      refine And.intro (by omega) ?_
      exact hQ _ _ hF (Or.inr ⟨by omega, by omega⟩)
