set_option maxHeartbeats 4000000 in
set_option maxRecDepth 100000 in
theorem s_eveningLineF {b nm : Nat → Int} {n m ps kd : Int} {s : EVx} {σ : xS} {Q : Option xV → xS → Prop} (hp0 : RRv σ b n m s.p) (hp1 : 0 ≤ s.l ∧ s.l ≤ 30) (hp2 : (0 ≤ ps ∧ ps ≤ 6) ∧ σ 2 1 = ps) (hp3 : (0 ≤ kd ∧ kd ≤ 13) ∧ σ 2 0 = kd) (hp4 : ∀ j : Nat, (j : Int) < 4 * s.l → σ 4 j = s.rd j) (hp5 : σ 0 52 = s.l) (hp6 : ∀ q : Nat, q < 6 → σ 5 q = nm q) (hQ : ∀ r : Int, ∀ σ' : xS, Fr [4] [4, 11, 12, 13, 14, 15, 16, 17, 18] σ σ' → ((r = 1 ∧ ∃ t, evl nm ps kd b n m s = .inr t ∧ RRv σ' b n m t.p ∧ ∀ j : Nat, (j : Int) < 4 * s.l + 4 → σ' 4 j = t.rd j) ∨ (r = 0 ∧ evl nm ps kd b n m s = .inl (σ' 0 15, σ' 0 16))) → Q (some (xvi r)) σ') : xT kX11_eveningLine [xvr 0] σ Q := by
  refine ⟨Nat.le_of_ble_eq_true rfl, fun X hX => ?_⟩
  show X 0 [xvr 0, xvu, xvu, xvu] σ
  have hF : Fr [4] [4, 11, 12, 13, 14, 15, 16, 17, 18] σ σ := Fr.rf
  refine hX 400 0 _ _ ?_
  have hR := hp0
  have hl := hp5
  have hps := hp2
  have hN := hp6
  have hO : ∀ j : Nat, ((j : Int) < 4 * s.l) → σ 4 j = s.rd j := hp4
  intro v1 e1 l1 h1
  have e1 : v1 = σ 0 52 := e1
  intro z2 t2 e2 l2 h2
  try have w2 : t2 = 0 := by omega
  refine And.intro (Nat.le_of_ble_eq_true rfl) ?_
  show xw _ _ _ _ _ _ _ _ _ _ [xvr 0, xvi z2, xvu, xvu] _ _
  refine rName (σ := σ) hR (fun c3 => ?_) (fun c3 => ?_)
  · have _ := c3
    refine And.intro (fun _ => ?_) (fun c4 => absurd c4 (by decide))
    refine And.intro (rfl) (And.intro (⟨by omega, by omega⟩) ?_)
    intro v5 e5 l5 h5
    have e5 : v5 = σ 2 1 := e5
    refine rFind (σ := σ) hR (by omega) (show v5 = ps from by omega) hps.1 (fun q hq => (congrFun (hF.1 5 (by decide) (by decide)) q).trans (hN q hq)) ?_
    have fr6 := fnd_r nm (tkw b n m s.p) ps.toNat
    refine And.intro (Nat.le_of_ble_eq_true rfl) ?_
    show xw _ _ _ _ _ _ _ _ _ _ [xvr 0, xvi z2, xvi (fnd nm ps.toNat (tkw b n m s.p)), xvu] _ _
    refine And.intro (fun c7 => ?_) (fun c7 => ?_)
    · intro v8 e8 l8 h8
      have e8 : v8 = σ 0 52 := e8
      refine And.intro (fun c9 => ?_) (fun c9 => ?_)
      · refine rNext (σ := σ) hR (fun σ10 f10 hR => ?_)
        have hF := hF.tr f10 (by decide) (by decide)
        have k52_10 : σ10 0 52 = s.l := (hF.2 52 (by decide)).trans hl
        have k2_10 : σ10 2 = σ 2 := hF.1 2 (by decide) (by decide)
        have k20_10 : σ10 2 0 = σ 2 0 := congrFun k2_10 0
        have k21_10 : σ10 2 1 = σ 2 1 := congrFun k2_10 1
        have hO : ∀ j : Nat, ((j : Int) < 4 * s.l) → σ10 4 j = s.rd j := fun j hj => (congrFun (f10.1 4 (by decide) (by decide)) j).trans (hO j hj)
        refine rWord 6 (σ := σ10) hR (by decide) (by decide +kernel) (fun c11 => ?_) (fun c11 => ?_)
        · have _ := c11
          refine And.intro (fun _ => ?_) (fun c12 => absurd c12 (by decide))
          refine rNext (σ := σ10) hR (fun σ13 f13 hR => ?_)
          have hF := hF.tr f13 (by decide) (by decide)
          have k52_13 : σ13 0 52 = s.l := (hF.2 52 (by decide)).trans hl
          have k2_13 : σ13 2 = σ 2 := hF.1 2 (by decide) (by decide)
          have k20_13 : σ13 2 0 = σ 2 0 := congrFun k2_13 0
          have k21_13 : σ13 2 1 = σ 2 1 := congrFun k2_13 1
          have hO : ∀ j : Nat, ((j : Int) < 4 * s.l) → σ13 4 j = s.rd j := fun j hj => (congrFun (f13.1 4 (by decide) (by decide)) j).trans (hO j hj)
          refine rName (σ := σ13) hR (fun c14 => ?_) (fun c14 => ?_)
          · have _ := c14
            refine And.intro (fun _ => ?_) (fun c15 => absurd c15 (by decide))
            refine And.intro (rfl) (And.intro (⟨by omega, by omega⟩) ?_)
            intro v16 e16 l16 h16
            have e16 : v16 = σ13 2 1 := e16
            refine rFind (σ := σ13) hR (by omega) (show v16 = ps from by omega) hps.1 (fun q hq => (congrFun (hF.1 5 (by decide) (by decide)) q).trans (hN q hq)) ?_
            have fr17 := fnd_r nm (tkw b n m (tkp b n m (tkp b n m s.p))) ps.toNat
            refine And.intro (Nat.le_of_ble_eq_true rfl) ?_
            show xw _ _ _ _ _ _ _ _ _ _ [xvr 0, xvi z2, xvi (fnd nm ps.toNat (tkw b n m s.p)), xvi (fnd nm ps.toNat (tkw b n m (tkp b n m (tkp b n m s.p))))] _ _
            refine And.intro (fun c18 => ?_) (fun c18 => ?_)
            · refine rNext (σ := σ13) hR (fun σ19 f19 hR => ?_)
              have hF := hF.tr f19 (by decide) (by decide)
              have k52_19 : σ19 0 52 = s.l := (hF.2 52 (by decide)).trans hl
              have k2_19 : σ19 2 = σ 2 := hF.1 2 (by decide) (by decide)
              have k20_19 : σ19 2 0 = σ 2 0 := congrFun k2_19 0
              have k21_19 : σ19 2 1 = σ 2 1 := congrFun k2_19 1
              have hO : ∀ j : Nat, ((j : Int) < 4 * s.l) → σ19 4 j = s.rd j := fun j hj => (congrFun (f19.1 4 (by decide) (by decide)) j).trans (hO j hj)
              refine And.intro (rfl) (And.intro (⟨by omega, by omega⟩) ?_)
              intro v20 e20 l20 h20
              have e20 : v20 = σ19 2 0 := e20
              intro z21 t21 e21 l21 h21
              try have w21 : t21 = 0 := by omega
              refine rTakes (σ := σ19) hR (fun c22 d22 σ22 f22 hR => ?_) (fun c22 σ22 f22 hE => ?_) (fun c22 d22 σ22 f22 hE => ?_)
              · have _ := c22
                have hF := hF.tr f22 (by decide) (by decide)
                obtain ⟨hR, kg⟩ := hR
                have k52_22 : σ22 0 52 = s.l := (hF.2 52 (by decide)).trans hl
                have k2_22 : σ22 2 = σ 2 := hF.1 2 (by decide) (by decide)
                have k20_22 : σ22 2 0 = σ 2 0 := congrFun k2_22 0
                have k21_22 : σ22 2 1 = σ 2 1 := congrFun k2_22 1
                have hO : ∀ j : Nat, ((j : Int) < 4 * s.l) → σ22 4 j = s.rd j := fun j hj => (congrFun (f22.1 4 (by decide) (by decide)) j).trans (hO j hj)
                refine And.intro (fun _ => ?_) (fun c23 => absurd c23 (by decide))
                refine And.intro (rfl) (And.intro (⟨by omega, by omega⟩) ?_)
                have hF := hF.pt (t := 4) (j := z2.toNat) (v := (fnd nm ps.toNat (tkw b n m s.p))) (by decide) (by decide)
                intro z25 t25 e25 l25 h25
                try have w25 : t25 = 0 := by omega
                refine And.intro (rfl) (And.intro (⟨by omega, by omega⟩) ?_)
                have hF := hF.pt (t := 4) (j := z25.toNat) (v := (fnd nm ps.toNat (tkw b n m (tkp b n m (tkp b n m s.p))))) (by decide) (by decide)
                intro z27 t27 e27 l27 h27
                try have w27 : t27 = 0 := by omega
                intro v28 e28 l28 h28
                have e28 : v28 = σ22 0 18 := e28
                refine And.intro (rfl) (And.intro (⟨by omega, by omega⟩) ?_)
                have hF := hF.pt (t := 4) (j := z27.toNat) (v := v28) (by decide) (by decide)
                intro z30 t30 e30 l30 h30
                try have w30 : t30 = 0 := by omega
                refine And.intro (rfl) (And.intro (⟨by omega, by omega⟩) ?_)
                have hF := hF.pt (t := 4) (j := z30.toNat) (v := 0) (by decide) (by decide)
                have hgt : v28 = tkv b n m (tkp b n m (tkp b n m (tkp b n m s.p))) := by omega
                have hR : RRv (xput (xput (xput (xput σ22 4 z2.toNat (fnd nm ps.toNat (tkw b n m s.p))) 4 z25.toNat (fnd nm ps.toNat (tkw b n m (tkp b n m (tkp b n m s.p))))) 4 z27.toNat v28) 4 z30.toNat 0) b n m (tkp b n m (tkp b n m (tkp b n m (tkp b n m s.p)))) := hR.fr (ts := [4]) (js := []) ((((Fr.rf.pt (t := 4) (j := z2.toNat) (v := (fnd nm ps.toNat (tkw b n m s.p))) (by decide) (by decide)).pt (t := 4) (j := z25.toNat) (v := (fnd nm ps.toNat (tkw b n m (tkp b n m (tkp b n m s.p))))) (by decide) (by decide)).pt (t := 4) (j := z27.toNat) (v := v28) (by decide) (by decide)).pt (t := 4) (j := z30.toNat) (v := 0) (by decide) (by decide))
                have hO : ∀ j : Nat, ((j : Int) < 4 * s.l) → (xput (xput (xput (xput σ22 4 z2.toNat (fnd nm ps.toNat (tkw b n m s.p))) 4 z25.toNat (fnd nm ps.toNat (tkw b n m (tkp b n m (tkp b n m s.p))))) 4 z27.toNat v28) 4 z30.toNat 0) 4 j = s.rd j := fun j hj => by rw [xput_o (by omega), xput_o (by omega), xput_o (by omega), xput_o (by omega)]; exact hO j hj
                have hA : (xput (xput (xput (xput σ22 4 z2.toNat (fnd nm ps.toNat (tkw b n m s.p))) 4 z25.toNat (fnd nm ps.toNat (tkw b n m (tkp b n m (tkp b n m s.p))))) 4 z27.toNat v28) 4 z30.toNat 0) 4 (4 * s.l).toNat = fnd nm ps.toNat (tkw b n m s.p) := by rw [show (4 * s.l).toNat = z2.toNat from by omega, xput_o (by omega), xput_o (by omega), xput_o (by omega), xput_s]
                have hB : (xput (xput (xput (xput σ22 4 z2.toNat (fnd nm ps.toNat (tkw b n m s.p))) 4 z25.toNat (fnd nm ps.toNat (tkw b n m (tkp b n m (tkp b n m s.p))))) 4 z27.toNat v28) 4 z30.toNat 0) 4 (4 * s.l + 1).toNat = fnd nm ps.toNat (tkw b n m (tkp b n m (tkp b n m s.p))) := by rw [show (4 * s.l + 1).toNat = z25.toNat from by omega, xput_o (by omega), xput_o (by omega), xput_s]
                have hC : (xput (xput (xput (xput σ22 4 z2.toNat (fnd nm ps.toNat (tkw b n m s.p))) 4 z25.toNat (fnd nm ps.toNat (tkw b n m (tkp b n m (tkp b n m s.p))))) 4 z27.toNat v28) 4 z30.toNat 0) 4 (4 * s.l + 2).toNat = tkv b n m (tkp b n m (tkp b n m (tkp b n m s.p))) := by rw [show (4 * s.l + 2).toNat = z27.toNat from by omega, xput_o (by omega), xput_s]; exact hgt
                have hG : (xput (xput (xput (xput σ22 4 z2.toNat (fnd nm ps.toNat (tkw b n m s.p))) 4 z25.toNat (fnd nm ps.toNat (tkw b n m (tkp b n m (tkp b n m s.p))))) 4 z27.toNat v28) 4 z30.toNat 0) 4 (4 * s.l + 3).toNat = 0 := by rw [show (4 * s.l + 3).toNat = z30.toNat from by omega, xput_s]
                refine rWord 8 (σ := (xput (xput (xput (xput σ22 4 z2.toNat (fnd nm ps.toNat (tkw b n m s.p))) 4 z25.toNat (fnd nm ps.toNat (tkw b n m (tkp b n m (tkp b n m s.p))))) 4 z27.toNat v28) 4 z30.toNat 0)) hR (by decide) (by decide +kernel) (fun c32 => ?_) (fun c32 => ?_)
                · have _ := c32
                  refine And.intro (fun c33 => absurd c33 (by decide)) (fun _ => ?_)
                  refine rNext (σ := (xput (xput (xput (xput σ22 4 z2.toNat (fnd nm ps.toNat (tkw b n m s.p))) 4 z25.toNat (fnd nm ps.toNat (tkw b n m (tkp b n m (tkp b n m s.p))))) 4 z27.toNat v28) 4 z30.toNat 0)) hR (fun σ34 f34 hR => ?_)
                  have hF := hF.tr f34 (by decide) (by decide)
                  have k52_34 : σ34 0 52 = s.l := (hF.2 52 (by decide)).trans hl
                  have k2_34 : σ34 2 = σ 2 := hF.1 2 (by decide) (by decide)
                  have k20_34 : σ34 2 0 = σ 2 0 := congrFun k2_34 0
                  have k21_34 : σ34 2 1 = σ 2 1 := congrFun k2_34 1
                  have hO : ∀ j : Nat, ((j : Int) < 4 * s.l) → σ34 4 j = s.rd j := fun j hj => (congrFun (f34.1 4 (by decide) (by decide)) j).trans (hO j hj)
                  have hA : σ34 4 (4 * s.l).toNat = fnd nm ps.toNat (tkw b n m s.p) := (congrFun (f34.1 4 (by decide) (by decide)) _).trans hA
                  have hB : σ34 4 (4 * s.l + 1).toNat = fnd nm ps.toNat (tkw b n m (tkp b n m (tkp b n m s.p))) := (congrFun (f34.1 4 (by decide) (by decide)) _).trans hB
                  have hC : σ34 4 (4 * s.l + 2).toNat = tkv b n m (tkp b n m (tkp b n m (tkp b n m s.p))) := (congrFun (f34.1 4 (by decide) (by decide)) _).trans hC
                  have hG : σ34 4 (4 * s.l + 3).toNat = 0 := (congrFun (f34.1 4 (by decide) (by decide)) _).trans hG
                  refine And.intro rfl ?_
                  refine And.intro (by omega) ?_
                  exact hQ _ _ hF (Or.inl ⟨rfl, _, evl_y (by omega) (by omega) (by omega) (by omega) (by omega) (by omega) (by omega) (by omega) (eva_0 (by omega)), hR, ev4_rows (by omega) hO hA hB hC hG⟩)
                · have _ := c32
                  refine And.intro (fun _ => ?_) (fun c35 => absurd (by decide) c35)
                  refine rWord 7 (σ := (xput (xput (xput (xput σ22 4 z2.toNat (fnd nm ps.toNat (tkw b n m s.p))) 4 z25.toNat (fnd nm ps.toNat (tkw b n m (tkp b n m (tkp b n m s.p))))) 4 z27.toNat v28) 4 z30.toNat 0)) hR (by decide) (by decide +kernel) (fun c36 => ?_) (fun c36 => ?_)
                  · have _ := c36
                    refine And.intro (fun _ => ?_) (fun c37 => absurd c37 (by decide))
                    refine rNext (σ := (xput (xput (xput (xput σ22 4 z2.toNat (fnd nm ps.toNat (tkw b n m s.p))) 4 z25.toNat (fnd nm ps.toNat (tkw b n m (tkp b n m (tkp b n m s.p))))) 4 z27.toNat v28) 4 z30.toNat 0)) hR (fun σ38 f38 hR => ?_)
                    have hF := hF.tr f38 (by decide) (by decide)
                    have k52_38 : σ38 0 52 = s.l := (hF.2 52 (by decide)).trans hl
                    have k2_38 : σ38 2 = σ 2 := hF.1 2 (by decide) (by decide)
                    have k20_38 : σ38 2 0 = σ 2 0 := congrFun k2_38 0
                    have k21_38 : σ38 2 1 = σ 2 1 := congrFun k2_38 1
                    have hO : ∀ j : Nat, ((j : Int) < 4 * s.l) → σ38 4 j = s.rd j := fun j hj => (congrFun (f38.1 4 (by decide) (by decide)) j).trans (hO j hj)
                    have hA : σ38 4 (4 * s.l).toNat = fnd nm ps.toNat (tkw b n m s.p) := (congrFun (f38.1 4 (by decide) (by decide)) _).trans hA
                    have hB : σ38 4 (4 * s.l + 1).toNat = fnd nm ps.toNat (tkw b n m (tkp b n m (tkp b n m s.p))) := (congrFun (f38.1 4 (by decide) (by decide)) _).trans hB
                    have hC : σ38 4 (4 * s.l + 2).toNat = tkv b n m (tkp b n m (tkp b n m (tkp b n m s.p))) := (congrFun (f38.1 4 (by decide) (by decide)) _).trans hC
                    have hG : σ38 4 (4 * s.l + 3).toNat = 0 := (congrFun (f38.1 4 (by decide) (by decide)) _).trans hG
                    refine rTakes (σ := σ38) hR (fun c39 d39 σ39 f39 hR => ?_) (fun c39 σ39 f39 hE => ?_) (fun c39 d39 σ39 f39 hE => ?_)
                    · have _ := c39
                      have hF := hF.tr f39 (by decide) (by decide)
                      obtain ⟨hR, kg⟩ := hR
                      have k52_39 : σ39 0 52 = s.l := (hF.2 52 (by decide)).trans hl
                      have k2_39 : σ39 2 = σ 2 := hF.1 2 (by decide) (by decide)
                      have k20_39 : σ39 2 0 = σ 2 0 := congrFun k2_39 0
                      have k21_39 : σ39 2 1 = σ 2 1 := congrFun k2_39 1
                      have hO : ∀ j : Nat, ((j : Int) < 4 * s.l) → σ39 4 j = s.rd j := fun j hj => (congrFun (f39.1 4 (by decide) (by decide)) j).trans (hO j hj)
                      have hA : σ39 4 (4 * s.l).toNat = fnd nm ps.toNat (tkw b n m s.p) := (congrFun (f39.1 4 (by decide) (by decide)) _).trans hA
                      have hB : σ39 4 (4 * s.l + 1).toNat = fnd nm ps.toNat (tkw b n m (tkp b n m (tkp b n m s.p))) := (congrFun (f39.1 4 (by decide) (by decide)) _).trans hB
                      have hC : σ39 4 (4 * s.l + 2).toNat = tkv b n m (tkp b n m (tkp b n m (tkp b n m s.p))) := (congrFun (f39.1 4 (by decide) (by decide)) _).trans hC
                      have hG : σ39 4 (4 * s.l + 3).toNat = 0 := (congrFun (f39.1 4 (by decide) (by decide)) _).trans hG
                      refine And.intro (fun _ => ?_) (fun c40 => absurd c40 (by decide))
                      intro z41 t41 e41 l41 h41
                      try have w41 : t41 = 0 := by omega
                      intro v42 e42 l42 h42
                      have e42 : v42 = σ39 0 18 := e42
                      refine And.intro (rfl) (And.intro (⟨by omega, by omega⟩) ?_)
                      have hF := hF.pt (t := 4) (j := z41.toNat) (v := v42) (by decide) (by decide)
                      have hgt : v42 = tkv b n m (tkp b n m (tkp b n m (tkp b n m (tkp b n m (tkp b n m s.p))))) := by omega
                      have hR : RRv (xput σ39 4 z41.toNat v42) b n m (tkp b n m (tkp b n m (tkp b n m (tkp b n m (tkp b n m (tkp b n m s.p)))))) := hR.fr (ts := [4]) (js := []) (Fr.rf.pt (t := 4) (j := z41.toNat) (v := v42) (by decide) (by decide))
                      have hO : ∀ j : Nat, ((j : Int) < 4 * s.l) → (xput σ39 4 z41.toNat v42) 4 j = s.rd j := fun j hj => by rw [xput_o (by omega)]; exact hO j hj
                      have hA : (xput σ39 4 z41.toNat v42) 4 (4 * s.l).toNat = fnd nm ps.toNat (tkw b n m s.p) := by rw [xput_o (by omega)]; exact hA
                      have hB : (xput σ39 4 z41.toNat v42) 4 (4 * s.l + 1).toNat = fnd nm ps.toNat (tkw b n m (tkp b n m (tkp b n m s.p))) := by rw [xput_o (by omega)]; exact hB
                      have hC : (xput σ39 4 z41.toNat v42) 4 (4 * s.l + 2).toNat = tkv b n m (tkp b n m (tkp b n m (tkp b n m s.p))) := by rw [xput_o (by omega)]; exact hC
                      have hG : (xput σ39 4 z41.toNat v42) 4 (4 * s.l + 3).toNat = tkv b n m (tkp b n m (tkp b n m (tkp b n m (tkp b n m (tkp b n m s.p))))) := by rw [show (4 * s.l + 3).toNat = z41.toNat from by omega, xput_s]; exact hgt
                      refine And.intro rfl ?_
                      refine And.intro (by omega) ?_
                      exact hQ _ _ hF (Or.inl ⟨rfl, _, evl_y (by omega) (by omega) (by omega) (by omega) (by omega) (by omega) (by omega) (by omega) (eva_4 (by omega) (by omega) (by omega)), hR, ev4_rows (by omega) hO hA hB hC hG⟩)
                    · have _ := c39
                      have hF := hF.tr f39 (by decide) (by decide)
                      have k52_39 : σ39 0 52 = s.l := (hF.2 52 (by decide)).trans hl
                      have k2_39 : σ39 2 = σ 2 := hF.1 2 (by decide) (by decide)
                      have k20_39 : σ39 2 0 = σ 2 0 := congrFun k2_39 0
                      have k21_39 : σ39 2 1 = σ 2 1 := congrFun k2_39 1
                      have hO : ∀ j : Nat, ((j : Int) < 4 * s.l) → σ39 4 j = s.rd j := fun j hj => (congrFun (f39.1 4 (by decide) (by decide)) j).trans (hO j hj)
                      have hA : σ39 4 (4 * s.l).toNat = fnd nm ps.toNat (tkw b n m s.p) := (congrFun (f39.1 4 (by decide) (by decide)) _).trans hA
                      have hB : σ39 4 (4 * s.l + 1).toNat = fnd nm ps.toNat (tkw b n m (tkp b n m (tkp b n m s.p))) := (congrFun (f39.1 4 (by decide) (by decide)) _).trans hB
                      have hC : σ39 4 (4 * s.l + 2).toNat = tkv b n m (tkp b n m (tkp b n m (tkp b n m s.p))) := (congrFun (f39.1 4 (by decide) (by decide)) _).trans hC
                      have hG : σ39 4 (4 * s.l + 3).toNat = 0 := (congrFun (f39.1 4 (by decide) (by decide)) _).trans hG
                      refine And.intro (fun c44 => absurd (by decide) c44) (fun _ => ?_)
                      refine And.intro rfl ?_
                      refine And.intro (by omega) ?_
                      exact hQ _ _ hF (Or.inr ⟨rfl, by
                        rw [hE.1, hE.2]
                        first | exact evl_0 (by omega) | exact evl_1 (by omega) (by omega) | exact evl_2 (by omega) (by omega) (by omega) | exact evl_3 (by omega) (by omega) (by omega) (by omega) | exact evl_4 (by omega) (by omega) (by omega) (by omega) (by omega) | exact evl_5 (by omega) (by omega) (by omega) (by omega) (by omega) (by omega) | exact evl_6 (by omega) (by omega) (by omega) (by omega) (by omega) (by omega) (by omega) | exact evl_7 (by omega) (by omega) (by omega) (by omega) (by omega) (by omega) (by omega) (by omega) | exact evl_x (by omega) (by omega) (by omega) (by omega) (by omega) (by omega) (by omega) (by omega) (eva_1 (by omega) (by omega)) | exact evl_x (by omega) (by omega) (by omega) (by omega) (by omega) (by omega) (by omega) (by omega) (eva_2 (by omega) (by omega)) | exact evl_x (by omega) (by omega) (by omega) (by omega) (by omega) (by omega) (by omega) (by omega) (eva_3 (by omega) (by omega) (by omega))⟩)
                    · have _ := c39
                      have hF := hF.tr f39 (by decide) (by decide)
                      have k52_39 : σ39 0 52 = s.l := (hF.2 52 (by decide)).trans hl
                      have k2_39 : σ39 2 = σ 2 := hF.1 2 (by decide) (by decide)
                      have k20_39 : σ39 2 0 = σ 2 0 := congrFun k2_39 0
                      have k21_39 : σ39 2 1 = σ 2 1 := congrFun k2_39 1
                      have hO : ∀ j : Nat, ((j : Int) < 4 * s.l) → σ39 4 j = s.rd j := fun j hj => (congrFun (f39.1 4 (by decide) (by decide)) j).trans (hO j hj)
                      have hA : σ39 4 (4 * s.l).toNat = fnd nm ps.toNat (tkw b n m s.p) := (congrFun (f39.1 4 (by decide) (by decide)) _).trans hA
                      have hB : σ39 4 (4 * s.l + 1).toNat = fnd nm ps.toNat (tkw b n m (tkp b n m (tkp b n m s.p))) := (congrFun (f39.1 4 (by decide) (by decide)) _).trans hB
                      have hC : σ39 4 (4 * s.l + 2).toNat = tkv b n m (tkp b n m (tkp b n m (tkp b n m s.p))) := (congrFun (f39.1 4 (by decide) (by decide)) _).trans hC
                      have hG : σ39 4 (4 * s.l + 3).toNat = 0 := (congrFun (f39.1 4 (by decide) (by decide)) _).trans hG
                      refine And.intro (fun c45 => absurd (by decide) c45) (fun _ => ?_)
                      refine And.intro rfl ?_
                      refine And.intro (by omega) ?_
                      exact hQ _ _ hF (Or.inr ⟨rfl, by
                        rw [hE.1, hE.2]
                        first | exact evl_0 (by omega) | exact evl_1 (by omega) (by omega) | exact evl_2 (by omega) (by omega) (by omega) | exact evl_3 (by omega) (by omega) (by omega) (by omega) | exact evl_4 (by omega) (by omega) (by omega) (by omega) (by omega) | exact evl_5 (by omega) (by omega) (by omega) (by omega) (by omega) (by omega) | exact evl_6 (by omega) (by omega) (by omega) (by omega) (by omega) (by omega) (by omega) | exact evl_7 (by omega) (by omega) (by omega) (by omega) (by omega) (by omega) (by omega) (by omega) | exact evl_x (by omega) (by omega) (by omega) (by omega) (by omega) (by omega) (by omega) (by omega) (eva_1 (by omega) (by omega)) | exact evl_x (by omega) (by omega) (by omega) (by omega) (by omega) (by omega) (by omega) (by omega) (eva_2 (by omega) (by omega)) | exact evl_x (by omega) (by omega) (by omega) (by omega) (by omega) (by omega) (by omega) (by omega) (eva_3 (by omega) (by omega) (by omega))⟩)
                  · have _ := c36
                    refine And.intro (fun c46 => absurd (by decide) c46) (fun _ => ?_)
                    refine rBad (σ := (xput (xput (xput (xput σ22 4 z2.toNat (fnd nm ps.toNat (tkw b n m s.p))) 4 z25.toNat (fnd nm ps.toNat (tkw b n m (tkp b n m (tkp b n m s.p))))) 4 z27.toNat v28) 4 z30.toNat 0)) hR (fun σ47 f47 hE => ?_)
                    have hF := hF.tr f47 (by decide) (by decide)
                    have k52_47 : σ47 0 52 = s.l := (hF.2 52 (by decide)).trans hl
                    have k2_47 : σ47 2 = σ 2 := hF.1 2 (by decide) (by decide)
                    have k20_47 : σ47 2 0 = σ 2 0 := congrFun k2_47 0
                    have k21_47 : σ47 2 1 = σ 2 1 := congrFun k2_47 1
                    have hO : ∀ j : Nat, ((j : Int) < 4 * s.l) → σ47 4 j = s.rd j := fun j hj => (congrFun (f47.1 4 (by decide) (by decide)) j).trans (hO j hj)
                    have hA : σ47 4 (4 * s.l).toNat = fnd nm ps.toNat (tkw b n m s.p) := (congrFun (f47.1 4 (by decide) (by decide)) _).trans hA
                    have hB : σ47 4 (4 * s.l + 1).toNat = fnd nm ps.toNat (tkw b n m (tkp b n m (tkp b n m s.p))) := (congrFun (f47.1 4 (by decide) (by decide)) _).trans hB
                    have hC : σ47 4 (4 * s.l + 2).toNat = tkv b n m (tkp b n m (tkp b n m (tkp b n m s.p))) := (congrFun (f47.1 4 (by decide) (by decide)) _).trans hC
                    have hG : σ47 4 (4 * s.l + 3).toNat = 0 := (congrFun (f47.1 4 (by decide) (by decide)) _).trans hG
                    refine And.intro rfl ?_
                    refine And.intro (by omega) ?_
                    exact hQ _ _ hF (Or.inr ⟨rfl, by
                      rw [hE.1, hE.2]
                      first | exact evl_0 (by omega) | exact evl_1 (by omega) (by omega) | exact evl_2 (by omega) (by omega) (by omega) | exact evl_3 (by omega) (by omega) (by omega) (by omega) | exact evl_4 (by omega) (by omega) (by omega) (by omega) (by omega) | exact evl_5 (by omega) (by omega) (by omega) (by omega) (by omega) (by omega) | exact evl_6 (by omega) (by omega) (by omega) (by omega) (by omega) (by omega) (by omega) | exact evl_7 (by omega) (by omega) (by omega) (by omega) (by omega) (by omega) (by omega) (by omega) | exact evl_x (by omega) (by omega) (by omega) (by omega) (by omega) (by omega) (by omega) (by omega) (eva_1 (by omega) (by omega)) | exact evl_x (by omega) (by omega) (by omega) (by omega) (by omega) (by omega) (by omega) (by omega) (eva_2 (by omega) (by omega)) | exact evl_x (by omega) (by omega) (by omega) (by omega) (by omega) (by omega) (by omega) (by omega) (eva_3 (by omega) (by omega) (by omega))⟩)
              · have _ := c22
                have hF := hF.tr f22 (by decide) (by decide)
                have k52_22 : σ22 0 52 = s.l := (hF.2 52 (by decide)).trans hl
                have k2_22 : σ22 2 = σ 2 := hF.1 2 (by decide) (by decide)
                have k20_22 : σ22 2 0 = σ 2 0 := congrFun k2_22 0
                have k21_22 : σ22 2 1 = σ 2 1 := congrFun k2_22 1
                have hO : ∀ j : Nat, ((j : Int) < 4 * s.l) → σ22 4 j = s.rd j := fun j hj => (congrFun (f22.1 4 (by decide) (by decide)) j).trans (hO j hj)
                refine And.intro (fun c48 => absurd (by decide) c48) (fun _ => ?_)
                refine And.intro rfl ?_
                refine And.intro (by omega) ?_
                exact hQ _ _ hF (Or.inr ⟨rfl, by
                  rw [hE.1, hE.2]
                  first | exact evl_0 (by omega) | exact evl_1 (by omega) (by omega) | exact evl_2 (by omega) (by omega) (by omega) | exact evl_3 (by omega) (by omega) (by omega) (by omega) | exact evl_4 (by omega) (by omega) (by omega) (by omega) (by omega) | exact evl_5 (by omega) (by omega) (by omega) (by omega) (by omega) (by omega) | exact evl_6 (by omega) (by omega) (by omega) (by omega) (by omega) (by omega) (by omega) | exact evl_7 (by omega) (by omega) (by omega) (by omega) (by omega) (by omega) (by omega) (by omega) | exact evl_x (by omega) (by omega) (by omega) (by omega) (by omega) (by omega) (by omega) (by omega) (eva_1 (by omega) (by omega)) | exact evl_x (by omega) (by omega) (by omega) (by omega) (by omega) (by omega) (by omega) (by omega) (eva_2 (by omega) (by omega)) | exact evl_x (by omega) (by omega) (by omega) (by omega) (by omega) (by omega) (by omega) (by omega) (eva_3 (by omega) (by omega) (by omega))⟩)
              · have _ := c22
                have hF := hF.tr f22 (by decide) (by decide)
                have k52_22 : σ22 0 52 = s.l := (hF.2 52 (by decide)).trans hl
                have k2_22 : σ22 2 = σ 2 := hF.1 2 (by decide) (by decide)
                have k20_22 : σ22 2 0 = σ 2 0 := congrFun k2_22 0
                have k21_22 : σ22 2 1 = σ 2 1 := congrFun k2_22 1
                have hO : ∀ j : Nat, ((j : Int) < 4 * s.l) → σ22 4 j = s.rd j := fun j hj => (congrFun (f22.1 4 (by decide) (by decide)) j).trans (hO j hj)
                refine And.intro (fun c49 => absurd (by decide) c49) (fun _ => ?_)
                refine And.intro rfl ?_
                refine And.intro (by omega) ?_
                exact hQ _ _ hF (Or.inr ⟨rfl, by
                  rw [hE.1, hE.2]
                  first | exact evl_0 (by omega) | exact evl_1 (by omega) (by omega) | exact evl_2 (by omega) (by omega) (by omega) | exact evl_3 (by omega) (by omega) (by omega) (by omega) | exact evl_4 (by omega) (by omega) (by omega) (by omega) (by omega) | exact evl_5 (by omega) (by omega) (by omega) (by omega) (by omega) (by omega) | exact evl_6 (by omega) (by omega) (by omega) (by omega) (by omega) (by omega) (by omega) | exact evl_7 (by omega) (by omega) (by omega) (by omega) (by omega) (by omega) (by omega) (by omega) | exact evl_x (by omega) (by omega) (by omega) (by omega) (by omega) (by omega) (by omega) (by omega) (eva_1 (by omega) (by omega)) | exact evl_x (by omega) (by omega) (by omega) (by omega) (by omega) (by omega) (by omega) (by omega) (eva_2 (by omega) (by omega)) | exact evl_x (by omega) (by omega) (by omega) (by omega) (by omega) (by omega) (by omega) (by omega) (eva_3 (by omega) (by omega) (by omega))⟩)
            · refine rBad (σ := σ13) hR (fun σ50 f50 hE => ?_)
              have hF := hF.tr f50 (by decide) (by decide)
              have k52_50 : σ50 0 52 = s.l := (hF.2 52 (by decide)).trans hl
              have k2_50 : σ50 2 = σ 2 := hF.1 2 (by decide) (by decide)
              have k20_50 : σ50 2 0 = σ 2 0 := congrFun k2_50 0
              have k21_50 : σ50 2 1 = σ 2 1 := congrFun k2_50 1
              have hO : ∀ j : Nat, ((j : Int) < 4 * s.l) → σ50 4 j = s.rd j := fun j hj => (congrFun (f50.1 4 (by decide) (by decide)) j).trans (hO j hj)
              refine And.intro rfl ?_
              refine And.intro (by omega) ?_
              exact hQ _ _ hF (Or.inr ⟨rfl, by
                rw [hE.1, hE.2]
                first | exact evl_0 (by omega) | exact evl_1 (by omega) (by omega) | exact evl_2 (by omega) (by omega) (by omega) | exact evl_3 (by omega) (by omega) (by omega) (by omega) | exact evl_4 (by omega) (by omega) (by omega) (by omega) (by omega) | exact evl_5 (by omega) (by omega) (by omega) (by omega) (by omega) (by omega) | exact evl_6 (by omega) (by omega) (by omega) (by omega) (by omega) (by omega) (by omega) | exact evl_7 (by omega) (by omega) (by omega) (by omega) (by omega) (by omega) (by omega) (by omega) | exact evl_x (by omega) (by omega) (by omega) (by omega) (by omega) (by omega) (by omega) (by omega) (eva_1 (by omega) (by omega)) | exact evl_x (by omega) (by omega) (by omega) (by omega) (by omega) (by omega) (by omega) (by omega) (eva_2 (by omega) (by omega)) | exact evl_x (by omega) (by omega) (by omega) (by omega) (by omega) (by omega) (by omega) (by omega) (eva_3 (by omega) (by omega) (by omega))⟩)
          · have _ := c14
            refine And.intro (fun c51 => absurd (by decide) c51) (fun _ => ?_)
            refine rBad (σ := σ13) hR (fun σ52 f52 hE => ?_)
            have hF := hF.tr f52 (by decide) (by decide)
            have k52_52 : σ52 0 52 = s.l := (hF.2 52 (by decide)).trans hl
            have k2_52 : σ52 2 = σ 2 := hF.1 2 (by decide) (by decide)
            have k20_52 : σ52 2 0 = σ 2 0 := congrFun k2_52 0
            have k21_52 : σ52 2 1 = σ 2 1 := congrFun k2_52 1
            have hO : ∀ j : Nat, ((j : Int) < 4 * s.l) → σ52 4 j = s.rd j := fun j hj => (congrFun (f52.1 4 (by decide) (by decide)) j).trans (hO j hj)
            refine And.intro rfl ?_
            refine And.intro (by omega) ?_
            exact hQ _ _ hF (Or.inr ⟨rfl, by
              rw [hE.1, hE.2]
              first | exact evl_0 (by omega) | exact evl_1 (by omega) (by omega) | exact evl_2 (by omega) (by omega) (by omega) | exact evl_3 (by omega) (by omega) (by omega) (by omega) | exact evl_4 (by omega) (by omega) (by omega) (by omega) (by omega) | exact evl_5 (by omega) (by omega) (by omega) (by omega) (by omega) (by omega) | exact evl_6 (by omega) (by omega) (by omega) (by omega) (by omega) (by omega) (by omega) | exact evl_7 (by omega) (by omega) (by omega) (by omega) (by omega) (by omega) (by omega) (by omega) | exact evl_x (by omega) (by omega) (by omega) (by omega) (by omega) (by omega) (by omega) (by omega) (eva_1 (by omega) (by omega)) | exact evl_x (by omega) (by omega) (by omega) (by omega) (by omega) (by omega) (by omega) (by omega) (eva_2 (by omega) (by omega)) | exact evl_x (by omega) (by omega) (by omega) (by omega) (by omega) (by omega) (by omega) (by omega) (eva_3 (by omega) (by omega) (by omega))⟩)
        · have _ := c11
          refine And.intro (fun c53 => absurd (by decide) c53) (fun _ => ?_)
          refine rBad (σ := σ10) hR (fun σ54 f54 hE => ?_)
          have hF := hF.tr f54 (by decide) (by decide)
          have k52_54 : σ54 0 52 = s.l := (hF.2 52 (by decide)).trans hl
          have k2_54 : σ54 2 = σ 2 := hF.1 2 (by decide) (by decide)
          have k20_54 : σ54 2 0 = σ 2 0 := congrFun k2_54 0
          have k21_54 : σ54 2 1 = σ 2 1 := congrFun k2_54 1
          have hO : ∀ j : Nat, ((j : Int) < 4 * s.l) → σ54 4 j = s.rd j := fun j hj => (congrFun (f54.1 4 (by decide) (by decide)) j).trans (hO j hj)
          refine And.intro rfl ?_
          refine And.intro (by omega) ?_
          exact hQ _ _ hF (Or.inr ⟨rfl, by
            rw [hE.1, hE.2]
            first | exact evl_0 (by omega) | exact evl_1 (by omega) (by omega) | exact evl_2 (by omega) (by omega) (by omega) | exact evl_3 (by omega) (by omega) (by omega) (by omega) | exact evl_4 (by omega) (by omega) (by omega) (by omega) (by omega) | exact evl_5 (by omega) (by omega) (by omega) (by omega) (by omega) (by omega) | exact evl_6 (by omega) (by omega) (by omega) (by omega) (by omega) (by omega) (by omega) | exact evl_7 (by omega) (by omega) (by omega) (by omega) (by omega) (by omega) (by omega) (by omega) | exact evl_x (by omega) (by omega) (by omega) (by omega) (by omega) (by omega) (by omega) (by omega) (eva_1 (by omega) (by omega)) | exact evl_x (by omega) (by omega) (by omega) (by omega) (by omega) (by omega) (by omega) (by omega) (eva_2 (by omega) (by omega)) | exact evl_x (by omega) (by omega) (by omega) (by omega) (by omega) (by omega) (by omega) (by omega) (eva_3 (by omega) (by omega) (by omega))⟩)
      · refine rBad (σ := σ) hR (fun σ55 f55 hE => ?_)
        have hF := hF.tr f55 (by decide) (by decide)
        have k52_55 : σ55 0 52 = s.l := (hF.2 52 (by decide)).trans hl
        have k2_55 : σ55 2 = σ 2 := hF.1 2 (by decide) (by decide)
        have k20_55 : σ55 2 0 = σ 2 0 := congrFun k2_55 0
        have k21_55 : σ55 2 1 = σ 2 1 := congrFun k2_55 1
        have hO : ∀ j : Nat, ((j : Int) < 4 * s.l) → σ55 4 j = s.rd j := fun j hj => (congrFun (f55.1 4 (by decide) (by decide)) j).trans (hO j hj)
        refine And.intro rfl ?_
        refine And.intro (by omega) ?_
        exact hQ _ _ hF (Or.inr ⟨rfl, by
          rw [hE.1, hE.2]
          first | exact evl_0 (by omega) | exact evl_1 (by omega) (by omega) | exact evl_2 (by omega) (by omega) (by omega) | exact evl_3 (by omega) (by omega) (by omega) (by omega) | exact evl_4 (by omega) (by omega) (by omega) (by omega) (by omega) | exact evl_5 (by omega) (by omega) (by omega) (by omega) (by omega) (by omega) | exact evl_6 (by omega) (by omega) (by omega) (by omega) (by omega) (by omega) (by omega) | exact evl_7 (by omega) (by omega) (by omega) (by omega) (by omega) (by omega) (by omega) (by omega) | exact evl_x (by omega) (by omega) (by omega) (by omega) (by omega) (by omega) (by omega) (by omega) (eva_1 (by omega) (by omega)) | exact evl_x (by omega) (by omega) (by omega) (by omega) (by omega) (by omega) (by omega) (by omega) (eva_2 (by omega) (by omega)) | exact evl_x (by omega) (by omega) (by omega) (by omega) (by omega) (by omega) (by omega) (by omega) (eva_3 (by omega) (by omega) (by omega))⟩)
    · refine rBad (σ := σ) hR (fun σ56 f56 hE => ?_)
      have hF := hF.tr f56 (by decide) (by decide)
      have k52_56 : σ56 0 52 = s.l := (hF.2 52 (by decide)).trans hl
      have k2_56 : σ56 2 = σ 2 := hF.1 2 (by decide) (by decide)
      have k20_56 : σ56 2 0 = σ 2 0 := congrFun k2_56 0
      have k21_56 : σ56 2 1 = σ 2 1 := congrFun k2_56 1
      have hO : ∀ j : Nat, ((j : Int) < 4 * s.l) → σ56 4 j = s.rd j := fun j hj => (congrFun (f56.1 4 (by decide) (by decide)) j).trans (hO j hj)
      refine And.intro rfl ?_
      refine And.intro (by omega) ?_
      exact hQ _ _ hF (Or.inr ⟨rfl, by
        rw [hE.1, hE.2]
        first | exact evl_0 (by omega) | exact evl_1 (by omega) (by omega) | exact evl_2 (by omega) (by omega) (by omega) | exact evl_3 (by omega) (by omega) (by omega) (by omega) | exact evl_4 (by omega) (by omega) (by omega) (by omega) (by omega) | exact evl_5 (by omega) (by omega) (by omega) (by omega) (by omega) (by omega) | exact evl_6 (by omega) (by omega) (by omega) (by omega) (by omega) (by omega) (by omega) | exact evl_7 (by omega) (by omega) (by omega) (by omega) (by omega) (by omega) (by omega) (by omega) | exact evl_x (by omega) (by omega) (by omega) (by omega) (by omega) (by omega) (by omega) (by omega) (eva_1 (by omega) (by omega)) | exact evl_x (by omega) (by omega) (by omega) (by omega) (by omega) (by omega) (by omega) (by omega) (eva_2 (by omega) (by omega)) | exact evl_x (by omega) (by omega) (by omega) (by omega) (by omega) (by omega) (by omega) (by omega) (eva_3 (by omega) (by omega) (by omega))⟩)
  · have _ := c3
    refine And.intro (fun c57 => absurd (by decide) c57) (fun _ => ?_)
    refine rBad (σ := σ) hR (fun σ58 f58 hE => ?_)
    have hF := hF.tr f58 (by decide) (by decide)
    have k52_58 : σ58 0 52 = s.l := (hF.2 52 (by decide)).trans hl
    have k2_58 : σ58 2 = σ 2 := hF.1 2 (by decide) (by decide)
    have k20_58 : σ58 2 0 = σ 2 0 := congrFun k2_58 0
    have k21_58 : σ58 2 1 = σ 2 1 := congrFun k2_58 1
    have hO : ∀ j : Nat, ((j : Int) < 4 * s.l) → σ58 4 j = s.rd j := fun j hj => (congrFun (f58.1 4 (by decide) (by decide)) j).trans (hO j hj)
    refine And.intro rfl ?_
    refine And.intro (by omega) ?_
    exact hQ _ _ hF (Or.inr ⟨rfl, by
      rw [hE.1, hE.2]
      first | exact evl_0 (by omega) | exact evl_1 (by omega) (by omega) | exact evl_2 (by omega) (by omega) (by omega) | exact evl_3 (by omega) (by omega) (by omega) (by omega) | exact evl_4 (by omega) (by omega) (by omega) (by omega) (by omega) | exact evl_5 (by omega) (by omega) (by omega) (by omega) (by omega) (by omega) | exact evl_6 (by omega) (by omega) (by omega) (by omega) (by omega) (by omega) (by omega) | exact evl_7 (by omega) (by omega) (by omega) (by omega) (by omega) (by omega) (by omega) (by omega) | exact evl_x (by omega) (by omega) (by omega) (by omega) (by omega) (by omega) (by omega) (by omega) (eva_1 (by omega) (by omega)) | exact evl_x (by omega) (by omega) (by omega) (by omega) (by omega) (by omega) (by omega) (by omega) (eva_2 (by omega) (by omega)) | exact evl_x (by omega) (by omega) (by omega) (by omega) (by omega) (by omega) (by omega) (by omega) (eva_3 (by omega) (by omega) (by omega))⟩)

