set_option maxHeartbeats 4000000 in
set_option maxRecDepth 100000 in
theorem sX9_readHandC {σ : xS} {Q : Option xV → xS → Prop} (hp0 : TG σ) (hp1 : (0 ≤ σ 2 4 ∧ σ 2 4 ≤ σ 2 2 ∧ σ 2 2 ≤ 940)) (hp2 : CRD σ) (hQ : ∀ r : Int, ∀ σ' : xS, Fr [1, 2, 5, 7, 8] [] σ σ' → (CRD σ') → Q (some (xvi r)) σ') : xT kX9_readHand [xvr 0, xvr 5] σ Q := by
  refine ⟨Nat.le_of_ble_eq_true rfl, fun X hX => ?_⟩
  show X 0 [xvr 0, xvr 5, xvu, xvu] σ
  have hF : Fr [1, 2, 5, 7, 8] [] σ σ := Fr.rf
  have hD : CRD σ := hp2
  refine hX 400 0 _ _ ?_
  have hT := hp0
  refine xMVf (sh := shT) (ci := 6) (τ := [2, 3, 4]) (E := xT kX6_advance) (t := 2) (r := []) (σ := σ) rfl rfl (fun Q1 hQ1 => sX6_advance (σ := xsel [2, 3, 4] σ)  (show 0 ≤ (σ 2 4) ∧ (σ 2 4) ≤ (σ 2 2) ∧ (σ 2 2) ≤ 940 from by omega) (fun ς1 f1 p1 => hQ1 _ _ ?_))
  have kq1_2 : (xbk [2, 3, 4] σ ς1) 2 2 = σ 2 2 := f1.2 2 (by decide)
  replace f1 : Fr [2] [] σ (xbk [2, 3, 4] σ ς1) := f1.bk (by decide) (by decide)
  replace p1 : 0 ≤ (xbk [2, 3, 4] σ ς1) 2 4 ∧ (xbk [2, 3, 4] σ ς1) 2 4 ≤ (σ 2 2) := p1
  generalize xbk [2, 3, 4] σ ς1 = σ1 at f1 kq1_2 p1 ⊢
  have hF := hF.tr f1 (by decide) (by decide)
  have hD : CRD σ1 := hD.fr f1
  have hT := hT.fr f1 (by decide) (by decide) (by decide) (by decide)
  refine xMVf (sh := shT) (ci := 6) (τ := [2, 3, 4, 5, 6, 7, 8, 9, 10, 11, 12, 13, 14, 15, 16, 17]) (E := xT kX6_isPerson) (t := 2) (r := [xvr 5]) (σ := σ1) rfl rfl (fun Q2 hQ2 => sX6_isPerson (σ := xsel [2, 3, 4, 5, 6, 7, 8, 9, 10, 11, 12, 13, 14, 15, 16, 17] σ1)  (show 0 ≤ (σ1 5 1) ∧ (σ1 5 1) ≤ 6 from hT.1.1.2.1) (fun r2 ς2 f2 p2 => hQ2 _ _ ?_))
  have kq2_2 : (xbk [2, 3, 4, 5, 6, 7, 8, 9, 10, 11, 12, 13, 14, 15, 16, 17] σ1 ς2) 2 2 = σ1 2 2 := f2.2 2 (by decide)
  have kq2_4 : (xbk [2, 3, 4, 5, 6, 7, 8, 9, 10, 11, 12, 13, 14, 15, 16, 17] σ1 ς2) 2 4 = σ1 2 4 := f2.2 4 (by decide)
  have kq2_5 : (xbk [2, 3, 4, 5, 6, 7, 8, 9, 10, 11, 12, 13, 14, 15, 16, 17] σ1 ς2) 2 5 = σ1 2 5 := f2.2 5 (by decide)
  have kq2_7 : (xbk [2, 3, 4, 5, 6, 7, 8, 9, 10, 11, 12, 13, 14, 15, 16, 17] σ1 ς2) 2 7 = σ1 2 7 := f2.2 7 (by decide)
  have kq2_8 : (xbk [2, 3, 4, 5, 6, 7, 8, 9, 10, 11, 12, 13, 14, 15, 16, 17] σ1 ς2) 2 8 = σ1 2 8 := f2.2 8 (by decide)
  replace f2 : Fr [2] [] σ1 (xbk [2, 3, 4, 5, 6, 7, 8, 9, 10, 11, 12, 13, 14, 15, 16, 17] σ1 ς2) := f2.bk (by decide) (by decide)
  replace p2 : (r2 = 1 ∧ HasN (σ1 6) ((σ1 5 1)) ((σ1 2 8))) ∨ (r2 = 0 ∧ (0 : Int) ≤ 0) := p2
  generalize xbk [2, 3, 4, 5, 6, 7, 8, 9, 10, 11, 12, 13, 14, 15, 16, 17] σ1 ς2 = σ2 at f2 kq2_2 kq2_4 kq2_5 kq2_7 kq2_8 p2 ⊢
  have hF := hF.tr f2 (by decide) (by decide)
  have hD : CRD σ2 := hD.fr f2
  have hT := hT.fr f2 (by decide) (by decide) (by decide) (by decide)
  have hN : r2 = 1 → HasN (σ2 6) (σ2 5 1) (σ2 2 8) := fun hr => by
    rw [f2.1 6 (by decide) (by decide), f2.1 5 (by decide) (by decide), kq2_8]
    rcases p2 with z | z
    · exact z.2
    · exfalso; omega
  replace p2 : r2 = 0 ∨ r2 = 1 := by
    rcases p2 with z | z
    · exact Or.inr z.1
    · exact Or.inl z.1
  refine And.intro (fun c3 => ?_) (fun c3 => ?_)
  · intro v4 e4 l4 h4
    have e4 : v4 = σ2 2 8 := e4
    have hNv : HasN (σ2 6) (σ2 5 1) v4 := by rw [show v4 = σ2 2 8 from by omega]; exact hN (by omega)
    clear hN
    have hn6 : 0 ≤ σ2 5 1 ∧ σ2 5 1 ≤ 6 := hT.1.1.2.1
    refine xMVp (sh := shT) (ci := 2) (τ := [5, 6, 7, 8, 9, 10, 11, 12, 13, 14, 15, 16, 17]) (E := xT kX2_find) (t := 5) (r := [xvl v4]) (σ := σ2) rfl rfl xbk_sel (fun Q5 hQ5 => sX2_findE (σ := xsel [5, 6, 7, 8, 9, 10, 11, 12, 13, 14, 15, 16, 17] σ2) (name := v4) (show 0 ≤ (σ2 5 1) ∧ (σ2 5 1) ≤ 6 from hT.1.1.2.1) (fun r5 p5 => hQ5 _ ?_))
    have p5 : (r5 = -1 ∧ ∀ q : Nat, (q : Int) < (σ2 5 1) → ¬ σ2 6 q = v4) ∨ (0 ≤ r5 ∧ r5 < (σ2 5 1) ∧ σ2 6 r5.toNat = v4) := p5
    replace p5 := HasN.f hNv p5
    clear hNv
    refine And.intro (Nat.le_of_ble_eq_true rfl) ?_
    show xw _ _ _ _ _ _ _ _ _ _ [xvr 0, xvr 5, xvi r5, xvu] _ _
    refine xMVf (sh := shT) (ci := 6) (τ := [2, 3, 4]) (E := xT kX6_advance) (t := 2) (r := []) (σ := σ2) rfl rfl (fun Q6 hQ6 => sX6_advance (σ := xsel [2, 3, 4] σ2)  (show 0 ≤ (σ2 2 4) ∧ (σ2 2 4) ≤ (σ2 2 2) ∧ (σ2 2 2) ≤ 940 from by omega) (fun ς6 f6 p6 => hQ6 _ _ ?_))
    have kq6_2 : (xbk [2, 3, 4] σ2 ς6) 2 2 = σ2 2 2 := f6.2 2 (by decide)
    replace f6 : Fr [2] [] σ2 (xbk [2, 3, 4] σ2 ς6) := f6.bk (by decide) (by decide)
    replace p6 : 0 ≤ (xbk [2, 3, 4] σ2 ς6) 2 4 ∧ (xbk [2, 3, 4] σ2 ς6) 2 4 ≤ (σ2 2 2) := p6
    generalize xbk [2, 3, 4] σ2 ς6 = σ6 at f6 kq6_2 p6 ⊢
    have hF := hF.tr f6 (by decide) (by decide)
    have hD : CRD σ6 := hD.fr f6
    have hT := hT.fr f6 (by decide) (by decide) (by decide) (by decide)
    have hk0 : 0 ≤ σ6 5 0 ∧ σ6 5 0 ≤ 13 := hT.1.1.1
    intro v7 e7 l7 h7
    have e7 : v7 = σ6 5 0 := e7
    intro z8 t8 e8 l8 h8
    try have w8 : t8 = 0 := by omega
    refine xMVf (sh := shT) (ci := 6) (τ := [2, 3, 4]) (E := xT kX6_isNumber) (t := 2) (r := [xvi 0, xvi z8]) (σ := σ6) rfl rfl (fun Q9 hQ9 => sX6_isNumber (σ := xsel [2, 3, 4] σ6) (least := 0) (greatest := z8)  (fun r9 ς9 f9 p9 => hQ9 _ _ ?_))
    have kq9_2 : (xbk [2, 3, 4] σ6 ς9) 2 2 = σ6 2 2 := f9.2 2 (by decide)
    have kq9_4 : (xbk [2, 3, 4] σ6 ς9) 2 4 = σ6 2 4 := f9.2 4 (by decide)
    have kq9_5 : (xbk [2, 3, 4] σ6 ς9) 2 5 = σ6 2 5 := f9.2 5 (by decide)
    have kq9_7 : (xbk [2, 3, 4] σ6 ς9) 2 7 = σ6 2 7 := f9.2 7 (by decide)
    have kq9_8 : (xbk [2, 3, 4] σ6 ς9) 2 8 = σ6 2 8 := f9.2 8 (by decide)
    replace f9 : Fr [2] [] σ6 (xbk [2, 3, 4] σ6 ς9) := f9.bk (by decide) (by decide)
    replace p9 : (r9 = 1 ∧ 0 ≤ (σ6 2 7) ∧ (σ6 2 7) ≤ z8) ∨ (r9 = 0 ∧ (0 : Int) ≤ 0) := p9
    generalize xbk [2, 3, 4] σ6 ς9 = σ9 at f9 kq9_2 kq9_4 kq9_5 kq9_7 kq9_8 p9 ⊢
    have hF := hF.tr f9 (by decide) (by decide)
    have hD : CRD σ9 := hD.fr f9
    have hT := hT.fr f9 (by decide) (by decide) (by decide) (by decide)
    refine And.intro (fun c10 => ?_) (fun c10 => ?_)
    · intro v11 e11 l11 h11
      have e11 : v11 = σ9 2 7 := e11
      refine And.intro (Nat.le_of_ble_eq_true rfl) ?_
      show xw _ _ _ _ _ _ _ _ _ _ [xvr 0, xvr 5, xvi r5, xvi v11] _ _
      refine xMVp (sh := shT) (ci := 2) (τ := [5, 6, 7, 8, 9, 10, 11, 12, 13, 14, 15, 16, 17]) (E := xT kX2_held) (t := 5) (r := [xvi r5, xvi v11]) (σ := σ9) rfl rfl xbk_sel (fun Q12 hQ12 => sX2_held (σ := xsel [5, 6, 7, 8, 9, 10, 11, 12, 13, 14, 15, 16, 17] σ9) (p := r5) (kind := v11) (show 0 ≤ r5 ∧ r5 ≤ 5 from by omega) (show 0 ≤ v11 ∧ v11 ≤ 12 from by omega) (fun r12 p12 => hQ12 _ ?_))
      have p12 : r12 = σ9 7 (13 * r5 + v11).toNat := p12
      refine And.intro (fun c13 => ?_) (fun c13 => ?_)
      · refine xMVf (sh := shT) (ci := 6) (τ := [2, 3, 4]) (E := xT kX6_advance) (t := 2) (r := []) (σ := σ9) rfl rfl (fun Q14 hQ14 => sX6_advance (σ := xsel [2, 3, 4] σ9)  (show 0 ≤ (σ9 2 4) ∧ (σ9 2 4) ≤ (σ9 2 2) ∧ (σ9 2 2) ≤ 940 from by omega) (fun ς14 f14 p14 => hQ14 _ _ ?_))
        have kq14_2 : (xbk [2, 3, 4] σ9 ς14) 2 2 = σ9 2 2 := f14.2 2 (by decide)
        replace f14 : Fr [2] [] σ9 (xbk [2, 3, 4] σ9 ς14) := f14.bk (by decide) (by decide)
        replace p14 : 0 ≤ (xbk [2, 3, 4] σ9 ς14) 2 4 ∧ (xbk [2, 3, 4] σ9 ς14) 2 4 ≤ (σ9 2 2) := p14
        generalize xbk [2, 3, 4] σ9 ς14 = σ14 at f14 kq14_2 p14 ⊢
        have hF := hF.tr f14 (by decide) (by decide)
        have hD : CRD σ14 := hD.fr f14
        have hT := hT.fr f14 (by decide) (by decide) (by decide) (by decide)
        refine xMVf (sh := shT) (ci := 6) (τ := [2, 3, 4]) (E := xT kX6_isNumber) (t := 2) (r := [xvi 1, xvi 4]) (σ := σ14) rfl rfl (fun Q15 hQ15 => sX6_isNumber (σ := xsel [2, 3, 4] σ14) (least := 1) (greatest := 4)  (fun r15 ς15 f15 p15 => hQ15 _ _ ?_))
        have kq15_2 : (xbk [2, 3, 4] σ14 ς15) 2 2 = σ14 2 2 := f15.2 2 (by decide)
        have kq15_4 : (xbk [2, 3, 4] σ14 ς15) 2 4 = σ14 2 4 := f15.2 4 (by decide)
        have kq15_5 : (xbk [2, 3, 4] σ14 ς15) 2 5 = σ14 2 5 := f15.2 5 (by decide)
        have kq15_7 : (xbk [2, 3, 4] σ14 ς15) 2 7 = σ14 2 7 := f15.2 7 (by decide)
        have kq15_8 : (xbk [2, 3, 4] σ14 ς15) 2 8 = σ14 2 8 := f15.2 8 (by decide)
        replace f15 : Fr [2] [] σ14 (xbk [2, 3, 4] σ14 ς15) := f15.bk (by decide) (by decide)
        replace p15 : (r15 = 1 ∧ 1 ≤ (σ14 2 7) ∧ (σ14 2 7) ≤ 4) ∨ (r15 = 0 ∧ (0 : Int) ≤ 0) := p15
        generalize xbk [2, 3, 4] σ14 ς15 = σ15 at f15 kq15_2 kq15_4 kq15_5 kq15_7 kq15_8 p15 ⊢
        have hF := hF.tr f15 (by decide) (by decide)
        have hD : CRD σ15 := hD.fr f15
        have hT := hT.fr f15 (by decide) (by decide) (by decide) (by decide)
        refine And.intro (fun c16 => ?_) (fun c16 => ?_)
        · have hi4 : σ15 1 v11.toNat ≤ 4 := (hT.2.1 v11.toNat (by omega)).2
          refine And.intro (rfl) (And.intro (⟨by omega, by omega⟩) ?_)
          intro v17 e17 l17 h17
          have e17 : v17 = σ15 1 v11.toNat := e17
          intro v18 e18 l18 h18
          have e18 : v18 = σ15 2 7 := e18
          intro z19 t19 e19 l19 h19
          try have w19 : t19 = 0 := by omega
          refine And.intro (fun c20 => ?_) (fun c20 => ?_)
          · refine And.intro (rfl) (And.intro (⟨by omega, by omega⟩) ?_)
            intro v21 e21 l21 h21
            have e21 : v21 = σ15 1 v11.toNat := e21
            intro v22 e22 l22 h22
            have e22 : v22 = σ15 2 7 := e22
            intro z23 t23 e23 l23 h23
            try have w23 : t23 = 0 := by omega
            refine And.intro (rfl) (And.intro (⟨by omega, by omega⟩) ?_)
            have hF := hF.pt (t := 1) (j := v11.toNat) (v := z23) (by decide) (by decide)
            intro v25 e25 l25 h25
            have e25 : v25 = σ15 2 7 := e25
            have hh : 0 ≤ σ15 7 (13 * r5 + v11).toNat ∧ σ15 7 (13 * r5 + v11).toNat ≤ 4 := by rw [ixk (by omega) (by omega)]; exact hT.1.2.1.h4 hT.1.2.2 (by omega) (by omega)
            have hE1 : (xput σ15 1 v11.toNat z23) 1 = up (σ15 1) v11.toNat (σ15 1 v11.toNat + v25) := by
              show xput σ15 1 v11.toNat z23 1 = _
              rw [xput_up, show z23 = σ15 1 v11.toNat + v25 from by omega]
            have hD8 := hD.r hT (p := r5) (by omega)
            refine xMVf (sh := shT) (ci := 2) (τ := [5, 6, 7, 8, 9, 10, 11, 12, 13, 14, 15, 16, 17]) (E := xT kX2_addToHand) (t := 5) (r := [xvi r5, xvi v11, xvi v25]) (σ := (xput σ15 1 v11.toNat z23)) rfl rfl (fun Q26 hQ26 => sX2_addToHandF (σ := xsel [5, 6, 7, 8, 9, 10, 11, 12, 13, 14, 15, 16, 17] (xput σ15 1 v11.toNat z23)) (p := r5) (kind := v11) (n := v25) (show 0 ≤ r5 ∧ r5 ≤ 5 from by omega) (show 0 ≤ v11 ∧ v11 ≤ 12 from by omega) (show -1000 ≤ σ15 7 (13 * r5 + v11).toNat + v25 ∧ σ15 7 (13 * r5 + v11).toNat + v25 ≤ 1000 from by omega) (show -1000 ≤ σ15 8 r5.toNat + v25 ∧ σ15 8 r5.toNat + v25 ≤ 1000 from by omega) (fun ς26 f26 pp26 => hQ26 _ _ ?_))
            have p26 := pp26.1
            have hD : CRD (xbk [5, 6, 7, 8, 9, 10, 11, 12, 13, 14, 15, 16, 17] (xput σ15 1 v11.toNat z23) ς26) := CRD.hand (σ := (xput σ15 1 v11.toNat z23)) (p := r5) (kind := v11) (n := v25) (hD.eq rfl rfl) (by omega) (by omega) (by exact pp26.1) (by exact pp26.2)
            clear pp26
            have kq26_0 : (xbk [5, 6, 7, 8, 9, 10, 11, 12, 13, 14, 15, 16, 17] (xput σ15 1 v11.toNat z23) ς26) 5 0 = σ15 5 0 := f26.2 0 (by decide)
            have kq26_1 : (xbk [5, 6, 7, 8, 9, 10, 11, 12, 13, 14, 15, 16, 17] (xput σ15 1 v11.toNat z23) ς26) 5 1 = σ15 5 1 := f26.2 1 (by decide)
            have kq26_2 : (xbk [5, 6, 7, 8, 9, 10, 11, 12, 13, 14, 15, 16, 17] (xput σ15 1 v11.toNat z23) ς26) 5 2 = σ15 5 2 := f26.2 2 (by decide)
            have kq26_8 : (xbk [5, 6, 7, 8, 9, 10, 11, 12, 13, 14, 15, 16, 17] (xput σ15 1 v11.toNat z23) ς26) 5 8 = σ15 5 8 := f26.2 8 (by decide)
            have kq26_9 : (xbk [5, 6, 7, 8, 9, 10, 11, 12, 13, 14, 15, 16, 17] (xput σ15 1 v11.toNat z23) ς26) 5 9 = σ15 5 9 := f26.2 9 (by decide)
            replace f26 : Fr [5, 7, 8] [] (xput σ15 1 v11.toNat z23) (xbk [5, 6, 7, 8, 9, 10, 11, 12, 13, 14, 15, 16, 17] (xput σ15 1 v11.toNat z23) ς26) := f26.bk (by decide) (by decide)
            replace p26 : (xbk [5, 6, 7, 8, 9, 10, 11, 12, 13, 14, 15, 16, 17] (xput σ15 1 v11.toNat z23) ς26) 7 = up ((xput σ15 1 v11.toNat z23) 7) (13 * r5 + v11).toNat (σ15 7 (13 * r5 + v11).toNat + v25) := p26
            generalize xbk [5, 6, 7, 8, 9, 10, 11, 12, 13, 14, 15, 16, 17] (xput σ15 1 v11.toNat z23) ς26 = σ26 at f26 kq26_0 kq26_1 kq26_2 kq26_8 kq26_9 p26 hD ⊢
            have hF := hF.tr f26 (by decide) (by decide)
            have hT := hT.hand (p := r5) (kind := v11) (n := v25) (by omega) (by omega) (by omega) (by omega) ((f26.1 1 (by decide) (by decide)).trans hE1) p26 (f26.1 9 (by decide) (by decide)) kq26_0 kq26_1 kq26_2 kq26_8 kq26_9
            have kr4_26 : σ26 2 4 = σ15 2 4 := congrFun (f26.1 2 (by decide) (by decide)) 4
            have kr2_26 : σ26 2 2 = σ15 2 2 := congrFun (f26.1 2 (by decide) (by decide)) 2
            refine xMVf (sh := shT) (ci := 6) (τ := [2, 3, 4]) (E := xT kX6_advance) (t := 2) (r := []) (σ := σ26) rfl rfl (fun Q27 hQ27 => sX6_advance (σ := xsel [2, 3, 4] σ26)  (show 0 ≤ (σ26 2 4) ∧ (σ26 2 4) ≤ (σ26 2 2) ∧ (σ26 2 2) ≤ 940 from by omega) (fun ς27 f27 p27 => hQ27 _ _ ?_))
            have kq27_2 : (xbk [2, 3, 4] σ26 ς27) 2 2 = σ26 2 2 := f27.2 2 (by decide)
            replace f27 : Fr [2] [] σ26 (xbk [2, 3, 4] σ26 ς27) := f27.bk (by decide) (by decide)
            replace p27 : 0 ≤ (xbk [2, 3, 4] σ26 ς27) 2 4 ∧ (xbk [2, 3, 4] σ26 ς27) 2 4 ≤ (σ26 2 2) := p27
            generalize xbk [2, 3, 4] σ26 ς27 = σ27 at f27 kq27_2 p27 ⊢
            have hF := hF.tr f27 (by decide) (by decide)
            have hD : CRD σ27 := hD.fr f27
            have hT := hT.fr f27 (by decide) (by decide) (by decide) (by decide)
            refine And.intro rfl ?_
            refine And.intro (by omega) ?_
            exact hQ _ _ hF (by exact hD)
          · refine xMVf (sh := shT) (ci := 6) (τ := [2, 3, 4]) (E := xT kX6_fail) (t := 2) (r := [xvi 5]) (σ := σ15) rfl rfl (fun Q28 hQ28 => sX6_fail (σ := xsel [2, 3, 4] σ15) (kind := 5)  (fun r28 ς28 f28 p28 => hQ28 _ _ ?_))
            have kq28_2 : (xbk [2, 3, 4] σ15 ς28) 2 2 = σ15 2 2 := f28.2 2 (by decide)
            have kq28_4 : (xbk [2, 3, 4] σ15 ς28) 2 4 = σ15 2 4 := f28.2 4 (by decide)
            have kq28_5 : (xbk [2, 3, 4] σ15 ς28) 2 5 = σ15 2 5 := f28.2 5 (by decide)
            have kq28_7 : (xbk [2, 3, 4] σ15 ς28) 2 7 = σ15 2 7 := f28.2 7 (by decide)
            have kq28_8 : (xbk [2, 3, 4] σ15 ς28) 2 8 = σ15 2 8 := f28.2 8 (by decide)
            replace f28 : Fr [2] [] σ15 (xbk [2, 3, 4] σ15 ς28) := f28.bk (by decide) (by decide)
            replace p28 : r28 = 0 := p28
            generalize xbk [2, 3, 4] σ15 ς28 = σ28 at f28 kq28_2 kq28_4 kq28_5 kq28_7 kq28_8 p28 ⊢
            have hF := hF.tr f28 (by decide) (by decide)
            have hD : CRD σ28 := hD.fr f28
            have hT := hT.fr f28 (by decide) (by decide) (by decide) (by decide)
            refine And.intro rfl ?_
            refine And.intro (by omega) ?_
            exact hQ _ _ hF (by exact hD)
        · refine And.intro rfl ?_
          refine And.intro (by omega) ?_
          exact hQ _ _ hF (by exact hD)
      · refine xMVf (sh := shT) (ci := 6) (τ := [2, 3, 4]) (E := xT kX6_fail) (t := 2) (r := [xvi 3]) (σ := σ9) rfl rfl (fun Q29 hQ29 => sX6_fail (σ := xsel [2, 3, 4] σ9) (kind := 3)  (fun r29 ς29 f29 p29 => hQ29 _ _ ?_))
        have kq29_2 : (xbk [2, 3, 4] σ9 ς29) 2 2 = σ9 2 2 := f29.2 2 (by decide)
        have kq29_4 : (xbk [2, 3, 4] σ9 ς29) 2 4 = σ9 2 4 := f29.2 4 (by decide)
        have kq29_5 : (xbk [2, 3, 4] σ9 ς29) 2 5 = σ9 2 5 := f29.2 5 (by decide)
        have kq29_7 : (xbk [2, 3, 4] σ9 ς29) 2 7 = σ9 2 7 := f29.2 7 (by decide)
        have kq29_8 : (xbk [2, 3, 4] σ9 ς29) 2 8 = σ9 2 8 := f29.2 8 (by decide)
        replace f29 : Fr [2] [] σ9 (xbk [2, 3, 4] σ9 ς29) := f29.bk (by decide) (by decide)
        replace p29 : r29 = 0 := p29
        generalize xbk [2, 3, 4] σ9 ς29 = σ29 at f29 kq29_2 kq29_4 kq29_5 kq29_7 kq29_8 p29 ⊢
        have hF := hF.tr f29 (by decide) (by decide)
        have hD : CRD σ29 := hD.fr f29
        have hT := hT.fr f29 (by decide) (by decide) (by decide) (by decide)
        refine And.intro rfl ?_
        refine And.intro (by omega) ?_
        exact hQ _ _ hF (by exact hD)
    · refine And.intro rfl ?_
      refine And.intro (by omega) ?_
      exact hQ _ _ hF (by exact hD)
  · refine And.intro rfl ?_
    refine And.intro (by omega) ?_
    exact hQ _ _ hF (by exact hD)
