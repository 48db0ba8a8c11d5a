set_option maxHeartbeats 4000000 in
set_option maxRecDepth 100000 in
theorem sX2_copyFromV {σ : xS} {Q : Option xV → xS → Prop} (hp0 : 0 ≤ σ 22 2 ∧ σ 22 2 ≤ 52) (hp1 : σ 13 2 = 0 ∨ σ 13 2 = 1) (hQ : ∀ σ' : xS, Fr [1, 2, 3, 4, 5, 6, 7, 8, 9, 10, 11, 12] [0, 1, 2, 3, 8, 9, 14, 15, 16] σ σ' → (((∀ i : Nat, (i : Int) < 78 → σ' 2 i = σ 15 i) ∧ (∀ i : Nat, (i : Int) < 52 → σ' 4 i = σ 17 i) ∧ (∀ i : Nat, (i : Int) < 78 → σ' 10 i = σ 23 i) ∧ (σ' 0 0 = σ 13 0 ∧ σ' 0 1 = σ 13 1 ∧ σ' 0 2 = σ 13 2 ∧ σ' 0 8 = σ 13 8 ∧ σ' 0 9 = σ 13 9) ∧ σ' 9 2 = σ 22 2) ∧ (∀ i : Nat, (i : Int) < 6 → σ' 1 i = σ 14 i) ∧ σ' 0 14 = σ 13 14 ∧ ∀ f : Nat → Int, GR (xsel [13, 14, 15, 16, 17, 18, 19, 20, 21, 22, 23, 24, 25] σ) f → GR σ' f) → Q none σ') : xT kX2_copyFrom [xvr 0, xvr 13] σ Q := by
  refine ⟨Nat.le_of_ble_eq_true rfl, fun X hX => ?_⟩
  show X 0 [xvr 0, xvr 13] σ
  have hF : Fr [1, 2, 3, 4, 5, 6, 7, 8, 9, 10, 11, 12] [0, 1, 2, 3, 8, 9, 14, 15, 16] σ σ := Fr.rf
  refine hX 400 0 _ _ ?_
  have s13 : σ 13 = σ 13 := rfl; have s14 : σ 14 = σ 14 := rfl; have s15 : σ 15 = σ 15 := rfl; have s16 : σ 16 = σ 16 := rfl; have s17 : σ 17 = σ 17 := rfl; have s18 : σ 18 = σ 18 := rfl; have s19 : σ 19 = σ 19 := rfl; have s20 : σ 20 = σ 20 := rfl; have s21 : σ 21 = σ 21 := rfl; have s22 : σ 22 = σ 22 := rfl; have s23 : σ 23 = σ 23 := rfl; have s24 : σ 24 = σ 24 := rfl; have s25 : σ 25 = σ 25 := rfl
  have hnn := hp0
  have hnn : 0 ≤ σ 22 2 ∧ σ 22 2 ≤ 52 := hnn
  intro v1 e1 l1 h1
  have e1 : v1 = σ 13 0 := e1
  have hF := hF.p (j := 0) (v := v1) (by decide)
  intro v3 e3 l3 h3
  have e3 : v3 = σ 13 1 := e3
  have hF := hF.p (j := 1) (v := v3) (by decide)
  intro v5 e5 l5 h5
  have e5 : v5 = σ 13 2 := e5
  refine And.intro (by omega) ?_
  have hF := hF.p (j := 2) (v := v5) (by decide)
  intro v7 e7 l7 h7
  have e7 : v7 = σ 13 3 := e7
  have hF := hF.p (j := 3) (v := v7) (by decide)
  refine And.intro (Nat.le_of_ble_eq_true rfl) ?_
  have z22 := congrFun s22 2
  refine And.intro (Or.inr rfl) (And.intro rfl (And.intro ⟨by omega, by omega, by omega, by omega, by omega⟩ ?_))
  have v9 : ∀ i : Nat, (i : Int) < 6 → xcp (xput (xput (xput (xput σ 0 0 v1) 0 1 v3) 0 2 v5) 0 3 v7) 14 (0 : Int).toNat 1 (0 : Int).toNat (6 : Int).toNat 1 i = σ 14 i := fun i hi => xcp_in (by omega)
  have f9 : Fr [1] [] (xput (xput (xput (xput σ 0 0 v1) 0 1 v3) 0 2 v5) 0 3 v7) (xcp (xput (xput (xput (xput σ 0 0 v1) 0 1 v3) 0 2 v5) 0 3 v7) 14 (0 : Int).toNat 1 (0 : Int).toNat (6 : Int).toNat) := Fr.cp (by decide)
  generalize xcp (xput (xput (xput (xput σ 0 0 v1) 0 1 v3) 0 2 v5) 0 3 v7) 14 (0 : Int).toNat 1 (0 : Int).toNat (6 : Int).toNat = σ9 at v9 f9 ⊢
  have hF := hF.tr f9 (by decide) (by decide)
  have c1 : ∀ i : Nat, (i : Int) < 6 → σ9 1 i = σ 14 i := fun i hi => (v9 i hi).trans (congrFun (s14) i)
  have T0 : σ9 0 0 = σ 13 0 := (f9.2 0 (by decide)).trans (e1.trans (congrFun s13 0))
  have T1 : σ9 0 1 = σ 13 1 := (f9.2 1 (by decide)).trans (e3.trans (congrFun s13 1))
  have T2 : σ9 0 2 = σ 13 2 := (f9.2 2 (by decide)).trans (e5.trans (congrFun s13 2))
  have T3 : σ9 0 3 = σ 13 3 := (f9.2 3 (by decide)).trans (e7.trans (congrFun s13 3))
  have s13 : σ9 13 = σ 13 := (f9.1 13 (by decide) (by decide)).trans s13
  have s14 : σ9 14 = σ 14 := (f9.1 14 (by decide) (by decide)).trans s14
  have s15 : σ9 15 = σ 15 := (f9.1 15 (by decide) (by decide)).trans s15
  have s16 : σ9 16 = σ 16 := (f9.1 16 (by decide) (by decide)).trans s16
  have s17 : σ9 17 = σ 17 := (f9.1 17 (by decide) (by decide)).trans s17
  have s18 : σ9 18 = σ 18 := (f9.1 18 (by decide) (by decide)).trans s18
  have s19 : σ9 19 = σ 19 := (f9.1 19 (by decide) (by decide)).trans s19
  have s20 : σ9 20 = σ 20 := (f9.1 20 (by decide) (by decide)).trans s20
  have s21 : σ9 21 = σ 21 := (f9.1 21 (by decide) (by decide)).trans s21
  have s22 : σ9 22 = σ 22 := (f9.1 22 (by decide) (by decide)).trans s22
  have s23 : σ9 23 = σ 23 := (f9.1 23 (by decide) (by decide)).trans s23
  have s24 : σ9 24 = σ 24 := (f9.1 24 (by decide) (by decide)).trans s24
  have s25 : σ9 25 = σ 25 := (f9.1 25 (by decide) (by decide)).trans s25
  refine And.intro (Nat.le_of_ble_eq_true rfl) ?_
  have z22 := congrFun s22 2
  refine And.intro (Or.inl rfl) (And.intro rfl (And.intro ⟨by omega, by omega, by omega, by omega, by omega⟩ ?_))
  have v10 : ∀ i : Nat, (i : Int) < 78 → xcp σ9 15 (0 : Int).toNat 2 (0 : Int).toNat (78 : Int).toNat 2 i = σ9 15 i := fun i hi => xcp_in (by omega)
  have f10 : Fr [2] [] σ9 (xcp σ9 15 (0 : Int).toNat 2 (0 : Int).toNat (78 : Int).toNat) := Fr.cp (by decide)
  generalize xcp σ9 15 (0 : Int).toNat 2 (0 : Int).toNat (78 : Int).toNat = σ10 at v10 f10 ⊢
  have hF := hF.tr f10 (by decide) (by decide)
  have c1 : ∀ i : Nat, (i : Int) < 6 → σ10 1 i = σ 14 i := fun i hi => by rw [f10.1 1 (by decide) (by decide)]; exact c1 i hi
  have c2 : ∀ i : Nat, (i : Int) < 78 → σ10 2 i = σ 15 i := fun i hi => (v10 i hi).trans (congrFun (s15) i)
  have T0 : σ10 0 0 = σ 13 0 := (f10.2 0 (by decide)).trans T0
  have T1 : σ10 0 1 = σ 13 1 := (f10.2 1 (by decide)).trans T1
  have T2 : σ10 0 2 = σ 13 2 := (f10.2 2 (by decide)).trans T2
  have T3 : σ10 0 3 = σ 13 3 := (f10.2 3 (by decide)).trans T3
  have s13 : σ10 13 = σ 13 := (f10.1 13 (by decide) (by decide)).trans s13
  have s14 : σ10 14 = σ 14 := (f10.1 14 (by decide) (by decide)).trans s14
  have s15 : σ10 15 = σ 15 := (f10.1 15 (by decide) (by decide)).trans s15
  have s16 : σ10 16 = σ 16 := (f10.1 16 (by decide) (by decide)).trans s16
  have s17 : σ10 17 = σ 17 := (f10.1 17 (by decide) (by decide)).trans s17
  have s18 : σ10 18 = σ 18 := (f10.1 18 (by decide) (by decide)).trans s18
  have s19 : σ10 19 = σ 19 := (f10.1 19 (by decide) (by decide)).trans s19
  have s20 : σ10 20 = σ 20 := (f10.1 20 (by decide) (by decide)).trans s20
  have s21 : σ10 21 = σ 21 := (f10.1 21 (by decide) (by decide)).trans s21
  have s22 : σ10 22 = σ 22 := (f10.1 22 (by decide) (by decide)).trans s22
  have s23 : σ10 23 = σ 23 := (f10.1 23 (by decide) (by decide)).trans s23
  have s24 : σ10 24 = σ 24 := (f10.1 24 (by decide) (by decide)).trans s24
  have s25 : σ10 25 = σ 25 := (f10.1 25 (by decide) (by decide)).trans s25
  refine And.intro (Nat.le_of_ble_eq_true rfl) ?_
  have z22 := congrFun s22 2
  refine And.intro (Or.inl rfl) (And.intro rfl (And.intro ⟨by omega, by omega, by omega, by omega, by omega⟩ ?_))
  have v11 : ∀ i : Nat, (i : Int) < 6 → xcp σ10 16 (0 : Int).toNat 3 (0 : Int).toNat (6 : Int).toNat 3 i = σ10 16 i := fun i hi => xcp_in (by omega)
  have f11 : Fr [3] [] σ10 (xcp σ10 16 (0 : Int).toNat 3 (0 : Int).toNat (6 : Int).toNat) := Fr.cp (by decide)
  generalize xcp σ10 16 (0 : Int).toNat 3 (0 : Int).toNat (6 : Int).toNat = σ11 at v11 f11 ⊢
  have hF := hF.tr f11 (by decide) (by decide)
  have c1 : ∀ i : Nat, (i : Int) < 6 → σ11 1 i = σ 14 i := fun i hi => by rw [f11.1 1 (by decide) (by decide)]; exact c1 i hi
  have c2 : ∀ i : Nat, (i : Int) < 78 → σ11 2 i = σ 15 i := fun i hi => by rw [f11.1 2 (by decide) (by decide)]; exact c2 i hi
  have c3 : ∀ i : Nat, (i : Int) < 6 → σ11 3 i = σ 16 i := fun i hi => (v11 i hi).trans (congrFun (s16) i)
  have T0 : σ11 0 0 = σ 13 0 := (f11.2 0 (by decide)).trans T0
  have T1 : σ11 0 1 = σ 13 1 := (f11.2 1 (by decide)).trans T1
  have T2 : σ11 0 2 = σ 13 2 := (f11.2 2 (by decide)).trans T2
  have T3 : σ11 0 3 = σ 13 3 := (f11.2 3 (by decide)).trans T3
  have s13 : σ11 13 = σ 13 := (f11.1 13 (by decide) (by decide)).trans s13
  have s14 : σ11 14 = σ 14 := (f11.1 14 (by decide) (by decide)).trans s14
  have s15 : σ11 15 = σ 15 := (f11.1 15 (by decide) (by decide)).trans s15
  have s16 : σ11 16 = σ 16 := (f11.1 16 (by decide) (by decide)).trans s16
  have s17 : σ11 17 = σ 17 := (f11.1 17 (by decide) (by decide)).trans s17
  have s18 : σ11 18 = σ 18 := (f11.1 18 (by decide) (by decide)).trans s18
  have s19 : σ11 19 = σ 19 := (f11.1 19 (by decide) (by decide)).trans s19
  have s20 : σ11 20 = σ 20 := (f11.1 20 (by decide) (by decide)).trans s20
  have s21 : σ11 21 = σ 21 := (f11.1 21 (by decide) (by decide)).trans s21
  have s22 : σ11 22 = σ 22 := (f11.1 22 (by decide) (by decide)).trans s22
  have s23 : σ11 23 = σ 23 := (f11.1 23 (by decide) (by decide)).trans s23
  have s24 : σ11 24 = σ 24 := (f11.1 24 (by decide) (by decide)).trans s24
  have s25 : σ11 25 = σ 25 := (f11.1 25 (by decide) (by decide)).trans s25
  refine And.intro (Nat.le_of_ble_eq_true rfl) ?_
  have z22 := congrFun s22 2
  refine And.intro (Or.inl rfl) (And.intro rfl (And.intro ⟨by omega, by omega, by omega, by omega, by omega⟩ ?_))
  have v12 : ∀ i : Nat, (i : Int) < 52 → xcp σ11 17 (0 : Int).toNat 4 (0 : Int).toNat (52 : Int).toNat 4 i = σ11 17 i := fun i hi => xcp_in (by omega)
  have f12 : Fr [4] [] σ11 (xcp σ11 17 (0 : Int).toNat 4 (0 : Int).toNat (52 : Int).toNat) := Fr.cp (by decide)
  generalize xcp σ11 17 (0 : Int).toNat 4 (0 : Int).toNat (52 : Int).toNat = σ12 at v12 f12 ⊢
  have hF := hF.tr f12 (by decide) (by decide)
  have c1 : ∀ i : Nat, (i : Int) < 6 → σ12 1 i = σ 14 i := fun i hi => by rw [f12.1 1 (by decide) (by decide)]; exact c1 i hi
  have c2 : ∀ i : Nat, (i : Int) < 78 → σ12 2 i = σ 15 i := fun i hi => by rw [f12.1 2 (by decide) (by decide)]; exact c2 i hi
  have c3 : ∀ i : Nat, (i : Int) < 6 → σ12 3 i = σ 16 i := fun i hi => by rw [f12.1 3 (by decide) (by decide)]; exact c3 i hi
  have c4 : ∀ i : Nat, (i : Int) < 52 → σ12 4 i = σ 17 i := fun i hi => (v12 i hi).trans (congrFun (s17) i)
  have T0 : σ12 0 0 = σ 13 0 := (f12.2 0 (by decide)).trans T0
  have T1 : σ12 0 1 = σ 13 1 := (f12.2 1 (by decide)).trans T1
  have T2 : σ12 0 2 = σ 13 2 := (f12.2 2 (by decide)).trans T2
  have T3 : σ12 0 3 = σ 13 3 := (f12.2 3 (by decide)).trans T3
  have s13 : σ12 13 = σ 13 := (f12.1 13 (by decide) (by decide)).trans s13
  have s14 : σ12 14 = σ 14 := (f12.1 14 (by decide) (by decide)).trans s14
  have s15 : σ12 15 = σ 15 := (f12.1 15 (by decide) (by decide)).trans s15
  have s16 : σ12 16 = σ 16 := (f12.1 16 (by decide) (by decide)).trans s16
  have s17 : σ12 17 = σ 17 := (f12.1 17 (by decide) (by decide)).trans s17
  have s18 : σ12 18 = σ 18 := (f12.1 18 (by decide) (by decide)).trans s18
  have s19 : σ12 19 = σ 19 := (f12.1 19 (by decide) (by decide)).trans s19
  have s20 : σ12 20 = σ 20 := (f12.1 20 (by decide) (by decide)).trans s20
  have s21 : σ12 21 = σ 21 := (f12.1 21 (by decide) (by decide)).trans s21
  have s22 : σ12 22 = σ 22 := (f12.1 22 (by decide) (by decide)).trans s22
  have s23 : σ12 23 = σ 23 := (f12.1 23 (by decide) (by decide)).trans s23
  have s24 : σ12 24 = σ 24 := (f12.1 24 (by decide) (by decide)).trans s24
  have s25 : σ12 25 = σ 25 := (f12.1 25 (by decide) (by decide)).trans s25
  intro v13 e13 l13 h13
  have e13 : v13 = σ12 13 8 := e13
  have hF := hF.p (j := 8) (v := v13) (by decide)
  intro v15 e15 l15 h15
  have e15 : v15 = σ12 13 9 := e15
  have hF := hF.p (j := 9) (v := v15) (by decide)
  refine And.intro (Nat.le_of_ble_eq_true rfl) ?_
  have z22 := congrFun s22 2
  refine And.intro (Or.inl rfl) (And.intro rfl (And.intro ⟨by omega, by omega, by omega, by omega, by omega⟩ ?_))
  have v17 : ∀ i : Nat, (i : Int) < 13 → xcp (xput (xput σ12 0 8 v13) 0 9 v15) 18 (0 : Int).toNat 5 (0 : Int).toNat (13 : Int).toNat 5 i = σ12 18 i := fun i hi => xcp_in (by omega)
  have f17 : Fr [5] [] (xput (xput σ12 0 8 v13) 0 9 v15) (xcp (xput (xput σ12 0 8 v13) 0 9 v15) 18 (0 : Int).toNat 5 (0 : Int).toNat (13 : Int).toNat) := Fr.cp (by decide)
  generalize xcp (xput (xput σ12 0 8 v13) 0 9 v15) 18 (0 : Int).toNat 5 (0 : Int).toNat (13 : Int).toNat = σ17 at v17 f17 ⊢
  have hF := hF.tr f17 (by decide) (by decide)
  have c1 : ∀ i : Nat, (i : Int) < 6 → σ17 1 i = σ 14 i := fun i hi => by rw [f17.1 1 (by decide) (by decide)]; exact c1 i hi
  have c2 : ∀ i : Nat, (i : Int) < 78 → σ17 2 i = σ 15 i := fun i hi => by rw [f17.1 2 (by decide) (by decide)]; exact c2 i hi
  have c3 : ∀ i : Nat, (i : Int) < 6 → σ17 3 i = σ 16 i := fun i hi => by rw [f17.1 3 (by decide) (by decide)]; exact c3 i hi
  have c4 : ∀ i : Nat, (i : Int) < 52 → σ17 4 i = σ 17 i := fun i hi => by rw [f17.1 4 (by decide) (by decide)]; exact c4 i hi
  have c5 : ∀ i : Nat, (i : Int) < 13 → σ17 5 i = σ 18 i := fun i hi => (v17 i hi).trans (congrFun (s18) i)
  have T0 : σ17 0 0 = σ 13 0 := (f17.2 0 (by decide)).trans T0
  have T1 : σ17 0 1 = σ 13 1 := (f17.2 1 (by decide)).trans T1
  have T2 : σ17 0 2 = σ 13 2 := (f17.2 2 (by decide)).trans T2
  have T3 : σ17 0 3 = σ 13 3 := (f17.2 3 (by decide)).trans T3
  have T8 : σ17 0 8 = σ 13 8 := (f17.2 8 (by decide)).trans (e13.trans (congrFun s13 8))
  have T9 : σ17 0 9 = σ 13 9 := (f17.2 9 (by decide)).trans (e15.trans (congrFun s13 9))
  have s13 : σ17 13 = σ 13 := (f17.1 13 (by decide) (by decide)).trans s13
  have s14 : σ17 14 = σ 14 := (f17.1 14 (by decide) (by decide)).trans s14
  have s15 : σ17 15 = σ 15 := (f17.1 15 (by decide) (by decide)).trans s15
  have s16 : σ17 16 = σ 16 := (f17.1 16 (by decide) (by decide)).trans s16
  have s17 : σ17 17 = σ 17 := (f17.1 17 (by decide) (by decide)).trans s17
  have s18 : σ17 18 = σ 18 := (f17.1 18 (by decide) (by decide)).trans s18
  have s19 : σ17 19 = σ 19 := (f17.1 19 (by decide) (by decide)).trans s19
  have s20 : σ17 20 = σ 20 := (f17.1 20 (by decide) (by decide)).trans s20
  have s21 : σ17 21 = σ 21 := (f17.1 21 (by decide) (by decide)).trans s21
  have s22 : σ17 22 = σ 22 := (f17.1 22 (by decide) (by decide)).trans s22
  have s23 : σ17 23 = σ 23 := (f17.1 23 (by decide) (by decide)).trans s23
  have s24 : σ17 24 = σ 24 := (f17.1 24 (by decide) (by decide)).trans s24
  have s25 : σ17 25 = σ 25 := (f17.1 25 (by decide) (by decide)).trans s25
  refine And.intro (Nat.le_of_ble_eq_true rfl) ?_
  have z22 := congrFun s22 2
  refine And.intro (Or.inl rfl) (And.intro rfl (And.intro ⟨by omega, by omega, by omega, by omega, by omega⟩ ?_))
  have v18 : ∀ i : Nat, (i : Int) < 6 → xcp σ17 19 (0 : Int).toNat 6 (0 : Int).toNat (6 : Int).toNat 6 i = σ17 19 i := fun i hi => xcp_in (by omega)
  have f18 : Fr [6] [] σ17 (xcp σ17 19 (0 : Int).toNat 6 (0 : Int).toNat (6 : Int).toNat) := Fr.cp (by decide)
  generalize xcp σ17 19 (0 : Int).toNat 6 (0 : Int).toNat (6 : Int).toNat = σ18 at v18 f18 ⊢
  have hF := hF.tr f18 (by decide) (by decide)
  have c1 : ∀ i : Nat, (i : Int) < 6 → σ18 1 i = σ 14 i := fun i hi => by rw [f18.1 1 (by decide) (by decide)]; exact c1 i hi
  have c2 : ∀ i : Nat, (i : Int) < 78 → σ18 2 i = σ 15 i := fun i hi => by rw [f18.1 2 (by decide) (by decide)]; exact c2 i hi
  have c3 : ∀ i : Nat, (i : Int) < 6 → σ18 3 i = σ 16 i := fun i hi => by rw [f18.1 3 (by decide) (by decide)]; exact c3 i hi
  have c4 : ∀ i : Nat, (i : Int) < 52 → σ18 4 i = σ 17 i := fun i hi => by rw [f18.1 4 (by decide) (by decide)]; exact c4 i hi
  have c5 : ∀ i : Nat, (i : Int) < 13 → σ18 5 i = σ 18 i := fun i hi => by rw [f18.1 5 (by decide) (by decide)]; exact c5 i hi
  have c6 : ∀ i : Nat, (i : Int) < 6 → σ18 6 i = σ 19 i := fun i hi => (v18 i hi).trans (congrFun (s19) i)
  have T0 : σ18 0 0 = σ 13 0 := (f18.2 0 (by decide)).trans T0
  have T1 : σ18 0 1 = σ 13 1 := (f18.2 1 (by decide)).trans T1
  have T2 : σ18 0 2 = σ 13 2 := (f18.2 2 (by decide)).trans T2
  have T3 : σ18 0 3 = σ 13 3 := (f18.2 3 (by decide)).trans T3
  have T8 : σ18 0 8 = σ 13 8 := (f18.2 8 (by decide)).trans T8
  have T9 : σ18 0 9 = σ 13 9 := (f18.2 9 (by decide)).trans T9
  have s13 : σ18 13 = σ 13 := (f18.1 13 (by decide) (by decide)).trans s13
  have s14 : σ18 14 = σ 14 := (f18.1 14 (by decide) (by decide)).trans s14
  have s15 : σ18 15 = σ 15 := (f18.1 15 (by decide) (by decide)).trans s15
  have s16 : σ18 16 = σ 16 := (f18.1 16 (by decide) (by decide)).trans s16
  have s17 : σ18 17 = σ 17 := (f18.1 17 (by decide) (by decide)).trans s17
  have s18 : σ18 18 = σ 18 := (f18.1 18 (by decide) (by decide)).trans s18
  have s19 : σ18 19 = σ 19 := (f18.1 19 (by decide) (by decide)).trans s19
  have s20 : σ18 20 = σ 20 := (f18.1 20 (by decide) (by decide)).trans s20
  have s21 : σ18 21 = σ 21 := (f18.1 21 (by decide) (by decide)).trans s21
  have s22 : σ18 22 = σ 22 := (f18.1 22 (by decide) (by decide)).trans s22
  have s23 : σ18 23 = σ 23 := (f18.1 23 (by decide) (by decide)).trans s23
  have s24 : σ18 24 = σ 24 := (f18.1 24 (by decide) (by decide)).trans s24
  have s25 : σ18 25 = σ 25 := (f18.1 25 (by decide) (by decide)).trans s25
  refine And.intro (Nat.le_of_ble_eq_true rfl) ?_
  have z22 := congrFun s22 2
  refine And.intro (Or.inl rfl) (And.intro rfl (And.intro ⟨by omega, by omega, by omega, by omega, by omega⟩ ?_))
  have v19 : ∀ i : Nat, (i : Int) < 6 → xcp σ18 20 (0 : Int).toNat 7 (0 : Int).toNat (6 : Int).toNat 7 i = σ18 20 i := fun i hi => xcp_in (by omega)
  have f19 : Fr [7] [] σ18 (xcp σ18 20 (0 : Int).toNat 7 (0 : Int).toNat (6 : Int).toNat) := Fr.cp (by decide)
  generalize xcp σ18 20 (0 : Int).toNat 7 (0 : Int).toNat (6 : Int).toNat = σ19 at v19 f19 ⊢
  have hF := hF.tr f19 (by decide) (by decide)
  have c1 : ∀ i : Nat, (i : Int) < 6 → σ19 1 i = σ 14 i := fun i hi => by rw [f19.1 1 (by decide) (by decide)]; exact c1 i hi
  have c2 : ∀ i : Nat, (i : Int) < 78 → σ19 2 i = σ 15 i := fun i hi => by rw [f19.1 2 (by decide) (by decide)]; exact c2 i hi
  have c3 : ∀ i : Nat, (i : Int) < 6 → σ19 3 i = σ 16 i := fun i hi => by rw [f19.1 3 (by decide) (by decide)]; exact c3 i hi
  have c4 : ∀ i : Nat, (i : Int) < 52 → σ19 4 i = σ 17 i := fun i hi => by rw [f19.1 4 (by decide) (by decide)]; exact c4 i hi
  have c5 : ∀ i : Nat, (i : Int) < 13 → σ19 5 i = σ 18 i := fun i hi => by rw [f19.1 5 (by decide) (by decide)]; exact c5 i hi
  have c6 : ∀ i : Nat, (i : Int) < 6 → σ19 6 i = σ 19 i := fun i hi => by rw [f19.1 6 (by decide) (by decide)]; exact c6 i hi
  have c7 : ∀ i : Nat, (i : Int) < 6 → σ19 7 i = σ 20 i := fun i hi => (v19 i hi).trans (congrFun (s20) i)
  have T0 : σ19 0 0 = σ 13 0 := (f19.2 0 (by decide)).trans T0
  have T1 : σ19 0 1 = σ 13 1 := (f19.2 1 (by decide)).trans T1
  have T2 : σ19 0 2 = σ 13 2 := (f19.2 2 (by decide)).trans T2
  have T3 : σ19 0 3 = σ 13 3 := (f19.2 3 (by decide)).trans T3
  have T8 : σ19 0 8 = σ 13 8 := (f19.2 8 (by decide)).trans T8
  have T9 : σ19 0 9 = σ 13 9 := (f19.2 9 (by decide)).trans T9
  have s13 : σ19 13 = σ 13 := (f19.1 13 (by decide) (by decide)).trans s13
  have s14 : σ19 14 = σ 14 := (f19.1 14 (by decide) (by decide)).trans s14
  have s15 : σ19 15 = σ 15 := (f19.1 15 (by decide) (by decide)).trans s15
  have s16 : σ19 16 = σ 16 := (f19.1 16 (by decide) (by decide)).trans s16
  have s17 : σ19 17 = σ 17 := (f19.1 17 (by decide) (by decide)).trans s17
  have s18 : σ19 18 = σ 18 := (f19.1 18 (by decide) (by decide)).trans s18
  have s19 : σ19 19 = σ 19 := (f19.1 19 (by decide) (by decide)).trans s19
  have s20 : σ19 20 = σ 20 := (f19.1 20 (by decide) (by decide)).trans s20
  have s21 : σ19 21 = σ 21 := (f19.1 21 (by decide) (by decide)).trans s21
  have s22 : σ19 22 = σ 22 := (f19.1 22 (by decide) (by decide)).trans s22
  have s23 : σ19 23 = σ 23 := (f19.1 23 (by decide) (by decide)).trans s23
  have s24 : σ19 24 = σ 24 := (f19.1 24 (by decide) (by decide)).trans s24
  have s25 : σ19 25 = σ 25 := (f19.1 25 (by decide) (by decide)).trans s25
  refine And.intro (Nat.le_of_ble_eq_true rfl) ?_
  have z22 := congrFun s22 2
  refine And.intro (Or.inl rfl) (And.intro rfl (And.intro ⟨by omega, by omega, by omega, by omega, by omega⟩ ?_))
  have v20 : ∀ i : Nat, (i : Int) < 6 → xcp σ19 21 (0 : Int).toNat 8 (0 : Int).toNat (6 : Int).toNat 8 i = σ19 21 i := fun i hi => xcp_in (by omega)
  have f20 : Fr [8] [] σ19 (xcp σ19 21 (0 : Int).toNat 8 (0 : Int).toNat (6 : Int).toNat) := Fr.cp (by decide)
  generalize xcp σ19 21 (0 : Int).toNat 8 (0 : Int).toNat (6 : Int).toNat = σ20 at v20 f20 ⊢
  have hF := hF.tr f20 (by decide) (by decide)
  have c1 : ∀ i : Nat, (i : Int) < 6 → σ20 1 i = σ 14 i := fun i hi => by rw [f20.1 1 (by decide) (by decide)]; exact c1 i hi
  have c2 : ∀ i : Nat, (i : Int) < 78 → σ20 2 i = σ 15 i := fun i hi => by rw [f20.1 2 (by decide) (by decide)]; exact c2 i hi
  have c3 : ∀ i : Nat, (i : Int) < 6 → σ20 3 i = σ 16 i := fun i hi => by rw [f20.1 3 (by decide) (by decide)]; exact c3 i hi
  have c4 : ∀ i : Nat, (i : Int) < 52 → σ20 4 i = σ 17 i := fun i hi => by rw [f20.1 4 (by decide) (by decide)]; exact c4 i hi
  have c5 : ∀ i : Nat, (i : Int) < 13 → σ20 5 i = σ 18 i := fun i hi => by rw [f20.1 5 (by decide) (by decide)]; exact c5 i hi
  have c6 : ∀ i : Nat, (i : Int) < 6 → σ20 6 i = σ 19 i := fun i hi => by rw [f20.1 6 (by decide) (by decide)]; exact c6 i hi
  have c7 : ∀ i : Nat, (i : Int) < 6 → σ20 7 i = σ 20 i := fun i hi => by rw [f20.1 7 (by decide) (by decide)]; exact c7 i hi
  have c8 : ∀ i : Nat, (i : Int) < 6 → σ20 8 i = σ 21 i := fun i hi => (v20 i hi).trans (congrFun (s21) i)
  have T0 : σ20 0 0 = σ 13 0 := (f20.2 0 (by decide)).trans T0
  have T1 : σ20 0 1 = σ 13 1 := (f20.2 1 (by decide)).trans T1
  have T2 : σ20 0 2 = σ 13 2 := (f20.2 2 (by decide)).trans T2
  have T3 : σ20 0 3 = σ 13 3 := (f20.2 3 (by decide)).trans T3
  have T8 : σ20 0 8 = σ 13 8 := (f20.2 8 (by decide)).trans T8
  have T9 : σ20 0 9 = σ 13 9 := (f20.2 9 (by decide)).trans T9
  have s13 : σ20 13 = σ 13 := (f20.1 13 (by decide) (by decide)).trans s13
  have s14 : σ20 14 = σ 14 := (f20.1 14 (by decide) (by decide)).trans s14
  have s15 : σ20 15 = σ 15 := (f20.1 15 (by decide) (by decide)).trans s15
  have s16 : σ20 16 = σ 16 := (f20.1 16 (by decide) (by decide)).trans s16
  have s17 : σ20 17 = σ 17 := (f20.1 17 (by decide) (by decide)).trans s17
  have s18 : σ20 18 = σ 18 := (f20.1 18 (by decide) (by decide)).trans s18
  have s19 : σ20 19 = σ 19 := (f20.1 19 (by decide) (by decide)).trans s19
  have s20 : σ20 20 = σ 20 := (f20.1 20 (by decide) (by decide)).trans s20
  have s21 : σ20 21 = σ 21 := (f20.1 21 (by decide) (by decide)).trans s21
  have s22 : σ20 22 = σ 22 := (f20.1 22 (by decide) (by decide)).trans s22
  have s23 : σ20 23 = σ 23 := (f20.1 23 (by decide) (by decide)).trans s23
  have s24 : σ20 24 = σ 24 := (f20.1 24 (by decide) (by decide)).trans s24
  have s25 : σ20 25 = σ 25 := (f20.1 25 (by decide) (by decide)).trans s25
  intro v21 e21 l21 h21
  have e21 : v21 = σ20 13 14 := e21
  have hF := hF.p (j := 14) (v := v21) (by decide)
  intro v23 e23 l23 h23
  have e23 : v23 = σ20 13 15 := e23
  have hF := hF.p (j := 15) (v := v23) (by decide)
  intro v25 e25 l25 h25
  have e25 : v25 = σ20 13 16 := e25
  have hF := hF.p (j := 16) (v := v25) (by decide)
  refine sX3_copyFromF (σ := (xput (xput (xput σ20 0 14 v21) 0 15 v23) 0 16 v25)) (show 0 ≤ σ20 22 2 ∧ σ20 22 2 ≤ 52 from by have z := congrFun s22 2; omega) (fun σ27 f27 p27 => ?_)
  have hF := hF.tr f27 (by decide) (by decide)
  have d1 : ∀ i : Nat, (i : Int) < 6 → σ27 1 i = σ 14 i := fun i hi => by rw [f27.1 1 (by decide) (by decide)]; exact c1 i hi
  have d2 : ∀ i : Nat, (i : Int) < 78 → σ27 2 i = σ 15 i := fun i hi => by rw [f27.1 2 (by decide) (by decide)]; exact c2 i hi
  have d3 : ∀ i : Nat, (i : Int) < 6 → σ27 3 i = σ 16 i := fun i hi => by rw [f27.1 3 (by decide) (by decide)]; exact c3 i hi
  have d4 : ∀ i : Nat, (i : Int) < 52 → σ27 4 i = σ 17 i := fun i hi => by rw [f27.1 4 (by decide) (by decide)]; exact c4 i hi
  have d5 : ∀ i : Nat, (i : Int) < 13 → σ27 5 i = σ 18 i := fun i hi => by rw [f27.1 5 (by decide) (by decide)]; exact c5 i hi
  have d6 : ∀ i : Nat, (i : Int) < 6 → σ27 6 i = σ 19 i := fun i hi => by rw [f27.1 6 (by decide) (by decide)]; exact c6 i hi
  have d7 : ∀ i : Nat, (i : Int) < 6 → σ27 7 i = σ 20 i := fun i hi => by rw [f27.1 7 (by decide) (by decide)]; exact c7 i hi
  have d8 : ∀ i : Nat, (i : Int) < 6 → σ27 8 i = σ 21 i := fun i hi => by rw [f27.1 8 (by decide) (by decide)]; exact c8 i hi
  have z22 := congrFun s22 2
  have d10 : ∀ i : Nat, (i : Int) < 78 → σ27 10 i = σ 23 i := fun i hi => (p27.1 i hi).trans (congrFun s23 i)
  have d11 : ∀ i : Nat, (i : Int) < σ 22 2 → σ27 11 i = σ 24 i := fun i hi => (p27.2.1 i (by show (i : Int) < σ20 22 2; omega)).trans (congrFun s24 i)
  have d12 : ∀ i : Nat, (i : Int) < 6 → σ27 12 i = σ 25 i := fun i hi => (p27.2.2.1 i hi).trans (congrFun s25 i)
  have T0 : σ27 0 0 = σ 13 0 := (f27.2 0 (by decide)).trans T0
  have T1 : σ27 0 1 = σ 13 1 := (f27.2 1 (by decide)).trans T1
  have T2 : σ27 0 2 = σ 13 2 := (f27.2 2 (by decide)).trans T2
  have T3 : σ27 0 3 = σ 13 3 := (f27.2 3 (by decide)).trans T3
  have T8 : σ27 0 8 = σ 13 8 := (f27.2 8 (by decide)).trans T8
  have T9 : σ27 0 9 = σ 13 9 := (f27.2 9 (by decide)).trans T9
  have T14 : σ27 0 14 = σ 13 14 := (f27.2 14 (by decide)).trans (e21.trans (congrFun s13 14))
  have T15 : σ27 0 15 = σ 13 15 := (f27.2 15 (by decide)).trans (e23.trans (congrFun s13 15))
  have T16 : σ27 0 16 = σ 13 16 := (f27.2 16 (by decide)).trans (e25.trans (congrFun s13 16))
  have dz : σ27 9 2 = σ 22 2 := p27.2.2.2.trans z22
  refine And.intro rfl (And.intro rfl ?_)
  exact hQ _ hF ⟨⟨d2, d4, d10, ⟨T0, T1, T2, T8, T9⟩, dz⟩, d1, T14, fun f hp0 => GR.cp (τ := xsel [13, 14, 15, 16, 17, 18, 19, 20, 21, 22, 23, 24, 25] σ) hp0 d2 d3 d4 d5 d6 d7 d8 d10 d11 d12 T0 T1 T2 T3 T8 T9 T15 T16 dz⟩
