/-- a copy -/
theorem GR.cp {σ τ : xS} {f : Nat → Int} (H : GR τ f) (e2 : ∀ i : Nat, (i : Int) < 78 → σ 2 i = τ 2 i) (e3 : ∀ i : Nat, (i : Int) < 6 → σ 3 i = τ 3 i) (e4 : ∀ i : Nat, (i : Int) < 52 → σ 4 i = τ 4 i) (e5 : ∀ i : Nat, (i : Int) < 13 → σ 5 i = τ 5 i) (e6 : ∀ i : Nat, (i : Int) < 6 → σ 6 i = τ 6 i) (e7 : ∀ i : Nat, (i : Int) < 6 → σ 7 i = τ 7 i) (e8 : ∀ i : Nat, (i : Int) < 6 → σ 8 i = τ 8 i) (e10 : ∀ i : Nat, (i : Int) < 78 → σ 10 i = τ 10 i) (e11 : ∀ i : Nat, (i : Int) < τ 9 2 → σ 11 i = τ 11 i) (e12 : ∀ i : Nat, (i : Int) < 6 → σ 12 i = τ 12 i) (a0 : σ 0 0 = τ 0 0) (a1 : σ 0 1 = τ 0 1) (a2 : σ 0 2 = τ 0 2) (a3 : σ 0 3 = τ 0 3) (a8 : σ 0 8 = τ 0 8) (a9 : σ 0 9 = τ 0 9) (a15 : σ 0 15 = τ 0 15) (a16 : σ 0 16 = τ 0 16) (az : σ 9 2 = τ 9 2) : GR σ f := by
  have hw := H.w
  obtain ⟨hM, hC, ⟨⟨⟨h0, h1⟩, h2⟩, h7⟩, ⟨hO, hn⟩, ⟨x1, x2⟩⟩ := H
  refine ⟨hM.of (fun j h => ?_) (fun j h => e2 j (by omega)) (fun j h => e5 j (by omega)) (fun j h => e10 j (by omega)) (fun j h => e12 j (by omega)) (fun j h => e6 j (by omega)) (fun j h => e7 j (by omega)) (fun j h => e8 j (by omega)), hC.of (fun j h => e3 j (by omega)) (fun _ _ _ => rfl), ⟨⟨by rw [a8, a9]; exact ⟨h0, h1⟩, fun i hi => by rw [a8, e4 _ (by omega)]; exact h2 i hi⟩, h7⟩, ?_, ?_⟩
  · have h' : j = 0 ∨ j = 1 ∨ j = 2 ∨ j = 3 ∨ j = 15 ∨ j = 16 := by omega
    rcases h' with e | e | e | e | e | e
    · rw [e]; exact a0
    · rw [e]; exact a1
    · rw [e]; exact a2
    · rw [e]; exact a3
    · rw [e]; exact a15
    · rw [e]; exact a16
  · rw [az]
    exact ⟨hO.c e11 (fun _ _ _ => rfl) (fun q hq => (hw q hq).2), hn⟩
  · unfold HX
    rw [a9]
    exact ⟨x1, fun i hi => by rw [e4 i (by omega)]; exact x2 i hi⟩
set_option maxHeartbeats 4000000 in
set_option maxRecDepth 100000 in
theorem sX3_copyFromF {σ : xS} {Q : Option xV → xS → Prop} (hp0 : 0 ≤ σ 22 2 ∧ σ 22 2 ≤ 52) (hQ : ∀ σ' : xS, Fr [9, 10, 11, 12] [] σ σ' → ((∀ i : Nat, (i : Int) < 78 → σ' 10 i = σ 23 i) ∧ (∀ i : Nat, (i : Int) < σ 22 2 → σ' 11 i = σ 24 i) ∧ (∀ i : Nat, (i : Int) < 6 → σ' 12 i = σ 25 i) ∧ σ' 9 2 = σ 22 2) → Q none σ') : xT kX3_copyFrom [xvr 9, xvr 22] σ Q := by
  refine ⟨Nat.le_of_ble_eq_true rfl, fun X hX => ?_⟩
  show X 0 [xvr 9, xvr 22] σ
  have hF : Fr [9, 10, 11, 12] [] σ σ := Fr.rf
  refine hX 400 0 _ _ ?_
  have s22 : σ 22 = σ 22 := rfl; have s23 : σ 23 = σ 23 := rfl; have s24 : σ 24 = σ 24 := rfl; have s25 : σ 25 = σ 25 := rfl
  refine And.intro (Nat.le_of_ble_eq_true rfl) ?_
  have z22 := congrFun s22 2
  refine And.intro (Or.inl rfl) (And.intro rfl (And.intro ⟨by omega, by omega, by omega, by omega, by omega⟩ ?_))
  have v1 : ∀ i : Nat, (i : Int) < 78 → xcp σ 23 (0 : Int).toNat 10 (0 : Int).toNat (78 : Int).toNat 10 i = σ 23 i := fun i hi => xcp_in (by omega)
  have f1 : Fr [10] [] σ (xcp σ 23 (0 : Int).toNat 10 (0 : Int).toNat (78 : Int).toNat) := Fr.cp (by decide)
  generalize xcp σ 23 (0 : Int).toNat 10 (0 : Int).toNat (78 : Int).toNat = σ1 at v1 f1 ⊢
  have hF := hF.tr f1 (by decide) (by decide)
  have c10 : ∀ i : Nat, (i : Int) < 78 → σ1 10 i = σ 23 i := fun i hi => (v1 i hi).trans (congrFun (s23) i)
  have s23 : σ1 23 = σ 23 := (f1.1 23 (by decide) (by decide)).trans s23
  have s24 : σ1 24 = σ 24 := (f1.1 24 (by decide) (by decide)).trans s24
  have s25 : σ1 25 = σ 25 := (f1.1 25 (by decide) (by decide)).trans s25
  have s22 : σ1 22 = σ 22 := (f1.1 22 (by decide) (by decide)).trans s22
  intro v2 e2 l2 h2
  have e2 : v2 = σ1 22 2 := e2
  have z22 := congrFun s22 2
  refine And.intro (Or.inl rfl) (And.intro rfl (And.intro ⟨by omega, by omega, by omega, by omega, by omega⟩ ?_))
  have v3 : ∀ i : Nat, (i : Int) < v2 → xcp σ1 24 (0 : Int).toNat 11 (0 : Int).toNat (v2 : Int).toNat 11 i = σ1 24 i := fun i hi => xcp_in (by omega)
  have f3 : Fr [11] [] σ1 (xcp σ1 24 (0 : Int).toNat 11 (0 : Int).toNat (v2 : Int).toNat) := Fr.cp (by decide)
  generalize xcp σ1 24 (0 : Int).toNat 11 (0 : Int).toNat (v2 : Int).toNat = σ3 at v3 f3 ⊢
  have hF := hF.tr f3 (by decide) (by decide)
  have c10 : ∀ i : Nat, (i : Int) < 78 → σ3 10 i = σ 23 i := fun i hi => by rw [f3.1 10 (by decide) (by decide)]; exact c10 i hi
  have c11 : ∀ i : Nat, (i : Int) < v2 → σ3 11 i = σ 24 i := fun i hi => (v3 i hi).trans (congrFun (s24) i)
  have s23 : σ3 23 = σ 23 := (f3.1 23 (by decide) (by decide)).trans s23
  have s24 : σ3 24 = σ 24 := (f3.1 24 (by decide) (by decide)).trans s24
  have s25 : σ3 25 = σ 25 := (f3.1 25 (by decide) (by decide)).trans s25
  have s22 : σ3 22 = σ 22 := (f3.1 22 (by decide) (by decide)).trans s22
  refine And.intro (Nat.le_of_ble_eq_true rfl) ?_
  have z22 := congrFun s22 2
  refine And.intro (Or.inl rfl) (And.intro rfl (And.intro ⟨by omega, by omega, by omega, by omega, by omega⟩ ?_))
  have v4 : ∀ i : Nat, (i : Int) < 6 → xcp σ3 25 (0 : Int).toNat 12 (0 : Int).toNat (6 : Int).toNat 12 i = σ3 25 i := fun i hi => xcp_in (by omega)
  have f4 : Fr [12] [] σ3 (xcp σ3 25 (0 : Int).toNat 12 (0 : Int).toNat (6 : Int).toNat) := Fr.cp (by decide)
  generalize xcp σ3 25 (0 : Int).toNat 12 (0 : Int).toNat (6 : Int).toNat = σ4 at v4 f4 ⊢
  have hF := hF.tr f4 (by decide) (by decide)
  have c10 : ∀ i : Nat, (i : Int) < 78 → σ4 10 i = σ 23 i := fun i hi => by rw [f4.1 10 (by decide) (by decide)]; exact c10 i hi
  have c11 : ∀ i : Nat, (i : Int) < v2 → σ4 11 i = σ 24 i := fun i hi => by rw [f4.1 11 (by decide) (by decide)]; exact c11 i hi
  have c12 : ∀ i : Nat, (i : Int) < 6 → σ4 12 i = σ 25 i := fun i hi => (v4 i hi).trans (congrFun (s25) i)
  have s23 : σ4 23 = σ 23 := (f4.1 23 (by decide) (by decide)).trans s23
  have s24 : σ4 24 = σ 24 := (f4.1 24 (by decide) (by decide)).trans s24
  have s25 : σ4 25 = σ 25 := (f4.1 25 (by decide) (by decide)).trans s25
  have s22 : σ4 22 = σ 22 := (f4.1 22 (by decide) (by decide)).trans s22
  intro v5 e5 l5 h5
  have e5 : v5 = σ4 22 2 := e5
  have hF := hF.pt (t := 9) (j := 2) (v := v5) (by decide) (by decide)
  refine And.intro rfl (And.intro rfl ?_)
  exact hQ _ hF ⟨c10, (fun i hi => c11 i (by omega)), c12, (show v5 = σ 22 2 from by have z := congrFun s22 2; omega)⟩
