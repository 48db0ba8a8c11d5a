set_option maxHeartbeats 4000000 in
set_option maxRecDepth 100000 in
theorem pX10_tableC {f0 : Nat → Int} {σ : xS} {fine : Int} {Q : Option xV → xS → Prop} {Z : Nat → List xV → xS → Prop} (hp0 : JG (xsel [2, 3, 4, 5, 6, 7, 8, 9, 10, 11, 12, 13, 14] σ)) (hp1 : TG (xsel [32, 33, 30, 31, 1, 15, 16, 17, 18, 19, 20, 21, 22, 23, 24, 25, 26, 27] σ)) (hp2 : 0 ≤ σ 28 1 ∧ σ 28 1 ≤ 40) (hp3 : (0 ≤ σ 39 2 ∧ σ 39 2 ≤ 8) ∧ (0 ≤ σ 39 1 ∧ σ 39 1 ≤ 7)) (hp4 : ¬ fine = 0 → G0 (xsel [15, 16, 17, 18, 19, 20, 21, 22, 23, 24, 25, 26, 27] σ) f0) (hQ : ∀ r : Int, ∀ σ' : xS, Fr [2, 3, 4, 5, 6, 7, 8, 9, 10, 11, 12, 13, 14, 15, 16, 17, 18, 19, 20, 21, 22, 23, 24, 25, 26, 27, 28, 39] [1, 2] σ σ' → ((JG (xsel [2, 3, 4, 5, 6, 7, 8, 9, 10, 11, 12, 13, 14] σ') ∧ σ' 0 1 = 0 ∧ (0 ≤ σ' 28 1 ∧ σ' 28 1 ≤ 40) ∧ (0 ≤ σ' 39 2 ∧ σ' 39 2 ≤ 8) ∧ (0 ≤ σ' 39 1 ∧ σ' 39 1 ≤ 7)) ∧ ((fine = 0 ∧ r = -1 - σ 30 10 ∧ Fr [] [1, 2] σ σ') ∨ (¬ fine = 0 ∧ r = σ 32 3 ∧ (VS 0 f0 → gmC 2 σ' (begF f0)) ∧ (∀ i : Nat, i < 6 → σ' 3 i = σ 16 i) ∧ σ' 28 1 = 0 ∧ σ' 39 2 = 0)) ∧ σ' 0 2 = σ 30 9) → Q (some (xvi r)) σ') : xTE kX10_table_b Q Z 20 [xvr 0, xvi fine] σ := by
  intro X hX hZZ
  have hF : Fr [2, 3, 4, 5, 6, 7, 8, 9, 10, 11, 12, 13, 14, 15, 16, 17, 18, 19, 20, 21, 22, 23, 24, 25, 26, 27, 28, 39] [1, 2] σ σ := Fr.rf
  refine hX 400 20 _ _ ?_
  have hF := hF.p (j := 1) (v := 0) (by decide)
  intro v2 e2 l2 h2
  have e2 : v2 = σ 30 9 := e2
  have hF := hF.p (j := 2) (v := v2) (by decide)
  refine And.intro (fun c4 => ?_) (fun c4 => ?_)
  · refine xMVf (sh := shB1) (ci := 2) (τ := [15, 16, 17, 18, 19, 20, 21, 22, 23, 24, 25, 26, 27]) (E := xT kX2_start) (t := 15) (r := []) (σ := (xput (xput σ 0 1 0) 0 2 v2)) rfl rfl (fun Q5 hQ5 => sX2_startV (f := f0) (σ := xsel [15, 16, 17, 18, 19, 20, 21, 22, 23, 24, 25, 26, 27] (xput (xput σ 0 1 0) 0 2 v2)) (by exact hp1.1) (by exact hp4 (by omega)) (fun ς5 f5 p5 => hQ5 _ _ ?_))
    have hGs : VS 0 f0 → gmC 15 (xbk [15, 16, 17, 18, 19, 20, 21, 22, 23, 24, 25, 26, 27] (xput (xput σ 0 1 0) 0 2 v2) ς5) (begF f0) := fun hv => gm_bk (p5.2 hv).1 (p5.2 hv).2 (by decide)
    have pc : CG (xsel [15, 16, 17, 18, 19, 20, 21, 22, 23, 24, 25, 26, 27] (xbk [15, 16, 17, 18, 19, 20, 21, 22, 23, 24, 25, 26, 27] (xput (xput σ 0 1 0) 0 2 v2) ς5)) := p5.1
    have kq5_0 : (xbk [15, 16, 17, 18, 19, 20, 21, 22, 23, 24, 25, 26, 27] (xput (xput σ 0 1 0) 0 2 v2) ς5) 15 0 = σ 15 0 := f5.2 0 (by decide)
    have kq5_2 : (xbk [15, 16, 17, 18, 19, 20, 21, 22, 23, 24, 25, 26, 27] (xput (xput σ 0 1 0) 0 2 v2) ς5) 15 2 = σ 15 2 := f5.2 2 (by decide)
    have kq5_9 : (xbk [15, 16, 17, 18, 19, 20, 21, 22, 23, 24, 25, 26, 27] (xput (xput σ 0 1 0) 0 2 v2) ς5) 15 9 = σ 15 9 := f5.2 9 (by decide)
    replace f5 : Fr [15, 17, 18, 20, 21, 22, 23, 24, 25, 26, 27] [] (xput (xput σ 0 1 0) 0 2 v2) (xbk [15, 16, 17, 18, 19, 20, 21, 22, 23, 24, 25, 26, 27] (xput (xput σ 0 1 0) 0 2 v2) ς5) := f5.bk (by decide) (by decide)
    clear p5
    generalize xbk [15, 16, 17, 18, 19, 20, 21, 22, 23, 24, 25, 26, 27] (xput (xput σ 0 1 0) 0 2 v2) ς5 = σ5 at f5 hGs pc kq5_0 kq5_2 kq5_9 ⊢
    have hF := hF.tr f5 (by decide) (by decide)
    have hJT : JG (xsel [15, 16, 17, 18, 19, 20, 21, 22, 23, 24, 25, 26, 27] σ5) := by
      refine ⟨pc, ?_, fun i hi => ?_⟩
      · show σ5 15 2 = 0 ∨ σ5 15 2 = 1
        rw [kq5_2]; exact hp1.2.2.1
      · have hi : (i : Int) < σ5 15 9 := hi
        show σ5 19 i < σ5 15 0
        rw [kq5_9] at hi
        rw [kq5_0, f5.1 19 (by decide) (by decide)]; exact hp1.2.2.2 i hi
    have hn16 : σ5 16 = σ 16 := f5.1 16 (by decide) (by decide)
    have kz1 : σ5 0 1 = 0 := f5.2 1 (by decide)
    have kz2 : σ5 0 2 = σ 30 9 := (f5.2 2 (by decide)).trans (show v2 = σ 30 9 from by omega)
    have k39 : σ5 39 1 = σ 39 1 := congrFun (f5.1 39 (by decide) (by decide)) 1
    refine xMVf (sh := shB1) (ci := 2) (τ := [2, 3, 4, 5, 6, 7, 8, 9, 10, 11, 12, 13, 14, 15, 16, 17, 18, 19, 20, 21, 22, 23, 24, 25, 26, 27]) (E := xT kX2_copyFrom) (t := 2) (r := [xvr 15]) (σ := σ5) rfl rfl (fun Q6 hQ6 => sX2_copyFromV (σ := xsel [2, 3, 4, 5, 6, 7, 8, 9, 10, 11, 12, 13, 14, 15, 16, 17, 18, 19, 20, 21, 22, 23, 24, 25, 26, 27] σ5) hJT.1.2.2.2 hJT.2.1 (fun ς6 f6 p6 => hQ6 _ _ ?_))
    have hJ : JG (xsel [2, 3, 4, 5, 6, 7, 8, 9, 10, 11, 12, 13, 14] (xbk [2, 3, 4, 5, 6, 7, 8, 9, 10, 11, 12, 13, 14, 15, 16, 17, 18, 19, 20, 21, 22, 23, 24, 25, 26, 27] σ5 ς6)) := by
      obtain ⟨c1, c2, c3, c4, c5⟩ := p6.1
      exact JG.cp (f := xsel [15, 16, 17, 18, 19, 20, 21, 22, 23, 24, 25, 26, 27] σ5) hJT c1 c2 c3 c4 c5
    have hg2 : VS 0 f0 → gmC 2 (xbk [2, 3, 4, 5, 6, 7, 8, 9, 10, 11, 12, 13, 14, 15, 16, 17, 18, 19, 20, 21, 22, 23, 24, 25, 26, 27] σ5 ς6) (begF f0) := fun hv => gm_bk (p6.2.2.2 _ ((hGs hv).src (tb := 2))) (p6.2.2.1.trans (hGs hv).2) (by decide)
    have hn2 : ∀ j : Nat, j < 6 → (xbk [2, 3, 4, 5, 6, 7, 8, 9, 10, 11, 12, 13, 14, 15, 16, 17, 18, 19, 20, 21, 22, 23, 24, 25, 26, 27] σ5 ς6) 3 j = σ 16 j := fun j hj => (p6.2.1 j (by omega)).trans (congrFun hn16 j)
    replace f6 : Fr [2, 3, 4, 5, 6, 7, 8, 9, 10, 11, 12, 13, 14] [] σ5 (xbk [2, 3, 4, 5, 6, 7, 8, 9, 10, 11, 12, 13, 14, 15, 16, 17, 18, 19, 20, 21, 22, 23, 24, 25, 26, 27] σ5 ς6) := f6.bk (by decide) (by decide)
    clear p6
    generalize xbk [2, 3, 4, 5, 6, 7, 8, 9, 10, 11, 12, 13, 14, 15, 16, 17, 18, 19, 20, 21, 22, 23, 24, 25, 26, 27] σ5 ς6 = σ6 at f6 hJ hg2 hn2 ⊢
    have hF := hF.tr f6 (by decide) (by decide)
    have kz1 : σ6 0 1 = 0 := (f6.2 1 (by decide)).trans kz1
    have kz2 : σ6 0 2 = σ 30 9 := (f6.2 2 (by decide)).trans kz2
    have k39 : σ6 39 1 = σ 39 1 := (congrFun (f6.1 39 (by decide) (by decide)) 1).trans k39
    refine xMVf (sh := shB1) (ci := 7) (τ := [28, 29]) (E := xT kX7_clear) (t := 28) (r := []) (σ := σ6) rfl rfl (fun Q7 hQ7 => sX7_clear (σ := xsel [28, 29] σ6)   (fun ς7 f7 p7 => hQ7 _ _ ?_))
    replace f7 : Fr [28] [] σ6 (xbk [28, 29] σ6 ς7) := f7.bk (by decide) (by decide)
    replace p7 : (xbk [28, 29] σ6 ς7) 28 1 = 0 := p7
    generalize xbk [28, 29] σ6 ς7 = σ7 at f7  p7 ⊢
    have hF := hF.tr f7 (by decide) (by decide)
    have hJ := hJ.fr2 f7 (by decide)
    have hg2 : VS 0 f0 → gmC 2 σ7 (begF f0) := fun hv => (hg2 hv).eq (fun t _ _ => f7.1 t (by omega) (by simp; omega))
    have hn2 : ∀ j : Nat, j < 6 → σ7 3 j = σ 16 j := fun j hj => (congrFun (f7.1 3 (by decide) (by decide)) j).trans (hn2 j hj)
    have kt1 : σ7 28 1 = 0 := p7
    have kz1 : σ7 0 1 = 0 := (f7.2 1 (by decide)).trans kz1
    have kz2 : σ7 0 2 = σ 30 9 := (f7.2 2 (by decide)).trans kz2
    have k39 : σ7 39 1 = σ 39 1 := (congrFun (f7.1 39 (by decide) (by decide)) 1).trans k39
    refine xMVf (sh := shB1) (ci := 5) (τ := [39, 40]) (E := xT kX5_clear) (t := 39) (r := []) (σ := σ7) rfl rfl (fun Q8 hQ8 => sX5_clear (σ := xsel [39, 40] σ7)   (fun ς8 f8 p8 => hQ8 _ _ ?_))
    have kq8_1 : (xbk [39, 40] σ7 ς8) 39 1 = σ7 39 1 := f8.2 1 (by decide)
    replace f8 : Fr [39] [] σ7 (xbk [39, 40] σ7 ς8) := f8.bk (by decide) (by decide)
    replace p8 : (xbk [39, 40] σ7 ς8) 39 2 = 0 := p8
    generalize xbk [39, 40] σ7 ς8 = σ8 at f8 kq8_1 p8 ⊢
    have hF := hF.tr f8 (by decide) (by decide)
    have hJ := hJ.fr2 f8 (by decide)
    have hg2 : VS 0 f0 → gmC 2 σ8 (begF f0) := fun hv => (hg2 hv).eq (fun t _ _ => f8.1 t (by omega) (by simp; omega))
    have hn2 : ∀ j : Nat, j < 6 → σ8 3 j = σ 16 j := fun j hj => (congrFun (f8.1 3 (by decide) (by decide)) j).trans (hn2 j hj)
    have kz1 : σ8 0 1 = 0 := (f8.2 1 (by decide)).trans kz1
    have kz2 : σ8 0 2 = σ 30 9 := (f8.2 2 (by decide)).trans kz2
    have kt1 : σ8 28 1 = 0 := (congrFun (f8.1 28 (by decide) (by decide)) 1).trans kt1
    intro v9 e9 l9 h9
    have e9 : v9 = σ8 32 3 := e9
    refine And.intro rfl ?_
    have h32 : σ8 32 3 = σ 32 3 := congrFun (hF.1 32 (by decide) (by decide)) 3
    exact hQ _ _ hF ⟨⟨hJ, (show σ8 0 1 = 0 from by omega), (show 0 ≤ σ8 28 1 ∧ σ8 28 1 ≤ 40 from by omega), (show 0 ≤ σ8 39 2 ∧ σ8 39 2 ≤ 8 from by omega), (show 0 ≤ σ8 39 1 ∧ σ8 39 1 ≤ 7 from by omega)⟩, Or.inr ⟨by omega, by omega, hg2, hn2, (show σ8 28 1 = 0 from by omega), (show σ8 39 2 = 0 from by omega)⟩, (show σ8 0 2 = σ 30 9 from by omega)⟩
  · intro v10 e10 l10 h10
    have e10 : v10 = σ 30 10 := e10
    intro z11 t11 e11 l11 h11
    try have w11 : t11 = 0 := by omega
    refine And.intro rfl ?_
    exact hQ _ _ hF ⟨⟨(show JG (xsel [2, 3, 4, 5, 6, 7, 8, 9, 10, 11, 12, 13, 14] (xput (xput σ 0 1 0) 0 2 v2)) from hp0), (show 0 = 0 from by omega), (show 0 ≤ σ 28 1 ∧ σ 28 1 ≤ 40 from by omega), (show 0 ≤ σ 39 2 ∧ σ 39 2 ≤ 8 from by omega), (show 0 ≤ σ 39 1 ∧ σ 39 1 ≤ 7 from by omega)⟩, Or.inl ⟨by omega, by omega, (Fr.rf.p (j := 1) (v := 0) (by decide)).p (j := 2) (v := v2) (by decide)⟩, (show v2 = σ 30 9 from by omega)⟩
def TABCQ (σ : xS) (Q : Option xV → xS → Prop) : Prop := ∀ (r : Int) (σ' : xS), Fr [30, 32, 33, 2, 3, 4, 5, 6, 7, 8, 9, 10, 11, 12, 13, 14, 15, 16, 17, 18, 19, 20, 21, 22, 23, 24, 25, 26, 27, 28, 39] [1, 2] σ σ' → (JG (xsel [2, 3, 4, 5, 6, 7, 8, 9, 10, 11, 12, 13, 14] σ') ∧ σ' 0 1 = 0 ∧ (0 ≤ σ' 28 1 ∧ σ' 28 1 ≤ 40) ∧ (0 ≤ σ' 39 2 ∧ σ' 39 2 ≤ 8) ∧ (0 ≤ σ' 39 1 ∧ σ' 39 1 ≤ 7)) → (∃ s, TS0 s ∧ TBC s σ σ' r) → Q (some (xvi r)) σ'
def TABCE : xE := fun as σ Q => as = [xvr 0] ∧ (0 ≤ σ 0 1 ∧ σ 0 1 ≤ 940) ∧ (JG (xsel [2, 3, 4, 5, 6, 7, 8, 9, 10, 11, 12, 13, 14] σ)) ∧ (0 ≤ σ 28 1 ∧ σ 28 1 ≤ 40) ∧ ((0 ≤ σ 39 2 ∧ σ 39 2 ≤ 8) ∧ (0 ≤ σ 39 1 ∧ σ 39 1 ≤ 7)) ∧ WDS (σ 31) ∧ TABCQ σ Q
theorem TABCE_i {σ : xS} {Q : Option xV → xS → Prop} (h1 : 0 ≤ σ 0 1 ∧ σ 0 1 ≤ 940) (h2 : JG (xsel [2, 3, 4, 5, 6, 7, 8, 9, 10, 11, 12, 13, 14] σ)) (h3 : 0 ≤ σ 28 1 ∧ σ 28 1 ≤ 40) (h4 : (0 ≤ σ 39 2 ∧ σ 39 2 ≤ 8) ∧ (0 ≤ σ 39 1 ∧ σ 39 1 ≤ 7)) (h5 : WDS (σ 31)) (hQ : ∀ (r : Int) (σ' : xS), Fr [30, 32, 33, 2, 3, 4, 5, 6, 7, 8, 9, 10, 11, 12, 13, 14, 15, 16, 17, 18, 19, 20, 21, 22, 23, 24, 25, 26, 27, 28, 39] [1, 2] σ σ' → (JG (xsel [2, 3, 4, 5, 6, 7, 8, 9, 10, 11, 12, 13, 14] σ') ∧ σ' 0 1 = 0 ∧ (0 ≤ σ' 28 1 ∧ σ' 28 1 ≤ 40) ∧ (0 ≤ σ' 39 2 ∧ σ' 39 2 ≤ 8) ∧ (0 ≤ σ' 39 1 ∧ σ' 39 1 ≤ 7)) → (∃ s, TS0 s ∧ TBC s σ σ' r) → Q (some (xvi r)) σ') : TABCE [xvr 0] σ Q := ⟨rfl, h1, h2, h3, h4, h5, hQ⟩
