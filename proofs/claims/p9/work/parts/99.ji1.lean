set_option maxHeartbeats 4000000 in
set_option maxRecDepth 100000 in
theorem s_lineN {σ : xS} {Q : Option xV → xS → Prop} (hp0 : 0 ≤ σ 0 4 ∧ σ 0 4 ≤ σ 0 3 ∧ σ 0 3 ≤ 940) (hp1 : TH (σ 3) (σ 0 20)) (hQ : ∀ r : Int, ∀ σ' : xS, Fr [3, 5] [4, 11, 12, 13, 14, 15, 16, 17, 18, 20, 21, 22] σ σ' → (∀ q : Nat, q < 6 → σ' 5 q = σ 5 q) → Q (some (xvi r)) σ') : xT kX11_line [xvr 0] σ Q := by
  refine ⟨Nat.le_of_ble_eq_true rfl, fun X hX => ?_⟩
  show X 0 [xvr 0] σ
  have hF : Fr [3, 5] [4, 11, 12, 13, 14, 15, 16, 17, 18, 20, 21, 22] σ σ := Fr.rf
  have hN : ∀ q : Nat, q < 6 → σ 5 q = σ 5 q := fun _ _ => rfl
  refine hX 400 0 _ _ ?_
  have hT := hp1
  have hm := hT.hd0
  refine s_isWord (σ := σ) (w := 461330343027)  (fun r1 p1 => ?_)
  have p1 : (r1 = 1 ∧ (σ 0 11) = 1) ∨ (r1 = 0 ∧ (0 : Int) ≤ 0) := p1
  refine And.intro (fun c2 => ?_) (fun c2 => ?_)
  · replace p1 : (0 : Int) ≤ 0 := by
      rcases p1 with q | q
      · exact absurd q.1 (by omega)
      · exact q.2
    refine s_isWord (σ := σ) (w := 123581014175598)  (fun r3 p3 => ?_)
    have p3 : (r3 = 1 ∧ (σ 0 11) = 1) ∨ (r3 = 0 ∧ (0 : Int) ≤ 0) := p3
    refine And.intro (fun c4 => ?_) (fun c4 => ?_)
    · replace p3 : (0 : Int) ≤ 0 := by
        rcases p3 with q | q
        · exact absurd q.1 (by omega)
        · exact q.2
      refine s_isWord (σ := σ) (w := 1751215716)  (fun r5 p5 => ?_)
      have p5 : (r5 = 1 ∧ (σ 0 11) = 1) ∨ (r5 = 0 ∧ (0 : Int) ≤ 0) := p5
      refine And.intro (fun c6 => ?_) (fun c6 => ?_)
      · replace p5 : (0 : Int) ≤ 0 := by
          rcases p5 with q | q
          · exact absurd q.1 (by omega)
          · exact q.2
        refine s_isWord (σ := σ) (w := 1751474544)  (fun r7 p7 => ?_)
        have p7 : (r7 = 1 ∧ (σ 0 11) = 1) ∨ (r7 = 0 ∧ (0 : Int) ≤ 0) := p7
        refine And.intro (fun c8 => ?_) (fun c8 => ?_)
        · replace p7 : (0 : Int) ≤ 0 := by
            rcases p7 with q | q
            · exact absurd q.1 (by omega)
            · exact q.2
          refine s_isWord (σ := σ) (w := 418346264942)  (fun r9 p9 => ?_)
          have p9 : (r9 = 1 ∧ (σ 0 11) = 1) ∨ (r9 = 0 ∧ (0 : Int) ≤ 0) := p9
          refine And.intro (fun c10 => ?_) (fun c10 => ?_)
          · replace p9 : (0 : Int) ≤ 0 := by
              rcases p9 with q | q
              · exact absurd q.1 (by omega)
              · exact q.2
            refine s_isWord (σ := σ) (w := 125779835448428)  (fun r11 p11 => ?_)
            have p11 : (r11 = 1 ∧ (σ 0 11) = 1) ∨ (r11 = 0 ∧ (0 : Int) ≤ 0) := p11
            refine And.intro (fun c12 => ?_) (fun c12 => ?_)
            · replace p11 : (σ 0 11) = 1 := by
                rcases p11 with q | q
                · exact q.2
                · exact absurd q.1 (by omega)
              intro v13 e13 l13 h13
              have e13 : v13 = σ 0 22 := e13
              refine And.intro (fun c14 => ?_) (fun c14 => ?_)
              · refine And.intro (by omega) ?_
                have hF := hF.p (j := 22) (v := 1) (by decide)
                refine s_next (σ := (xput σ 0 22 1))  (show 0 ≤ σ 0 4 ∧ σ 0 4 ≤ σ 0 3 ∧ σ 0 3 ≤ 940 from by omega) (fun σ16 f16 p16 => ?_)
                have p16 : σ16 0 3 = (σ 0 3) ∧ (σ 0 4) ≤ σ16 0 4 ∧ σ16 0 4 ≤ σ16 0 3 ∧ (0 ≤ σ16 0 11 ∧ σ16 0 11 ≤ 4) ∧ (1 ≤ σ16 0 11 ∧ σ16 0 11 ≤ 3 → (σ 0 4) < σ16 0 4 ∧ 0 ≤ σ16 0 14) := p16
                have hF := hF.tr f16 (by decide) (by decide)
                have hN : ∀ q : Nat, q < 6 → σ16 5 q = σ 5 q := fun q hq => (congrFun (f16.1 5 (by decide) (by decide)) q).trans (hN q hq)
                have kt16 : σ16 3 = σ 3 := f16.1 3 (by decide) (by decide)
                have k20_16 : σ16 0 20 = σ 0 20 := f16.2 20 (by decide)
                have hT : TH (σ16 3) (σ16 0 20) := by rw [kt16, k20_16]; exact hT
                have q0_16 := congrFun kt16 0; have q1_16 := congrFun kt16 1; have q7_16 := congrFun kt16 7
                refine s_takes (σ := σ16) (low := 0) (high := 9) (show 0 ≤ σ16 0 4 ∧ σ16 0 4 ≤ σ16 0 3 ∧ σ16 0 3 ≤ 940 from by omega) (fun r17 σ17 f17 p17 => ?_)
                have p17 : (r17 = 1 ∧ (σ16 0 11) = 2 ∧ (0 ≤ σ17 0 18 ∧ σ17 0 18 ≤ 9) ∧ (σ17 0 3 = (σ16 0 3) ∧ (σ16 0 4) ≤ σ17 0 4 ∧ σ17 0 4 ≤ σ17 0 3 ∧ (0 ≤ σ17 0 11 ∧ σ17 0 11 ≤ 4) ∧ (1 ≤ σ17 0 11 ∧ σ17 0 11 ≤ 3 → (σ16 0 4) < σ17 0 4 ∧ 0 ≤ σ17 0 14))) ∨ (r17 = 0 ∧ (0 : Int) ≤ 0) := by
                  rcases p17 with q | q
                  · exact Or.inl q
                  · exact Or.inr ⟨q, by omega⟩
                have hF := hF.tr f17 (by decide) (by decide)
                have hN : ∀ q : Nat, q < 6 → σ17 5 q = σ 5 q := fun q hq => (congrFun (f17.1 5 (by decide) (by decide)) q).trans (hN q hq)
                have kt17 : σ17 3 = σ16 3 := f17.1 3 (by decide) (by decide)
                have k20_17 : σ17 0 20 = σ16 0 20 := f17.2 20 (by decide)
                have hT : TH (σ17 3) (σ17 0 20) := by rw [kt17, k20_17]; exact hT
                have q0_17 := congrFun kt17 0; have q1_17 := congrFun kt17 1; have q7_17 := congrFun kt17 7
                refine And.intro (fun c18 => ?_) (fun c18 => ?_)
                · replace p17 : (σ16 0 11) = 2 ∧ (0 ≤ σ17 0 18 ∧ σ17 0 18 ≤ 9) ∧ (σ17 0 3 = (σ16 0 3) ∧ (σ16 0 4) ≤ σ17 0 4 ∧ σ17 0 4 ≤ σ17 0 3 ∧ (0 ≤ σ17 0 11 ∧ σ17 0 11 ≤ 4) ∧ (1 ≤ σ17 0 11 ∧ σ17 0 11 ≤ 3 → (σ16 0 4) < σ17 0 4 ∧ 0 ≤ σ17 0 14)) := by
                    rcases p17 with q | q
                    · exact q.2
                    · exact absurd q.1 (by omega)
                  intro v19 e19 l19 h19
                  have e19 : v19 = σ17 0 18 := e19
                  refine And.intro (rfl) (And.intro (⟨by omega, by omega⟩) ?_)
                  have hF := hF.pt (t := 3) (j := 3) (v := v19) (by decide) (by decide)
                  refine And.intro rfl ?_
                  refine And.intro (by omega) ?_
                  have hT : TH ((xput σ17 3 3 v19) 3) ((xput σ17 3 3 v19) 0 20) := by
                    have e3 : (xput σ17 3 3 v19) 3 = up (σ17 3) 3 v19 := by first | exact xput_up | (rw [xput_up, xput_ne (by decide)])
                    rw [e3]
                    exact hT.k3 (by omega)
                  exact hQ _ _ hF hN
                · replace p17 : (0 : Int) ≤ 0 := by
                    rcases p17 with q | q
                    · exact absurd q.1 (by omega)
                    · exact q.2
                  refine And.intro rfl ?_
                  refine And.intro (by omega) ?_
                  exact hQ _ _ hF hN
              · refine s_badF (σ := σ) (kind := 3) (fun r21 σ21 f21 p21 => ?_)
                have p21 : r21 = 0 := p21
                have hF := hF.tr f21 (by decide) (by decide)
                have hN : ∀ q : Nat, q < 6 → σ21 5 q = σ 5 q := fun q hq => (congrFun (f21.1 5 (by decide) (by decide)) q).trans (hN q hq)
                have kt21 : σ21 3 = σ 3 := f21.1 3 (by decide) (by decide)
                have k20_21 : σ21 0 20 = σ 0 20 := f21.2 20 (by decide)
                have hT : TH (σ21 3) (σ21 0 20) := by rw [kt21, k20_21]; exact hT
                have q0_21 := congrFun kt21 0; have q1_21 := congrFun kt21 1; have q7_21 := congrFun kt21 7
                refine And.intro rfl ?_
                refine And.intro (by omega) ?_
                exact hQ _ _ hF hN
            · replace p11 : (0 : Int) ≤ 0 := by
                rcases p11 with q | q
                · exact absurd q.1 (by omega)
                · exact q.2
              refine s_badF (σ := σ) (kind := 1) (fun r22 σ22 f22 p22 => ?_)
              have p22 : r22 = 0 := p22
              have hF := hF.tr f22 (by decide) (by decide)
              have hN : ∀ q : Nat, q < 6 → σ22 5 q = σ 5 q := fun q hq => (congrFun (f22.1 5 (by decide) (by decide)) q).trans (hN q hq)
              have kt22 : σ22 3 = σ 3 := f22.1 3 (by decide) (by decide)
              have k20_22 : σ22 0 20 = σ 0 20 := f22.2 20 (by decide)
              have hT : TH (σ22 3) (σ22 0 20) := by rw [kt22, k20_22]; exact hT
              have q0_22 := congrFun kt22 0; have q1_22 := congrFun kt22 1; have q7_22 := congrFun kt22 7
              refine And.intro rfl ?_
              refine And.intro (by omega) ?_
              exact hQ _ _ hF hN
          · replace p9 : (σ 0 11) = 1 := by
              rcases p9 with q | q
              · exact q.2
              · exact absurd q.1 (by omega)
            intro v23 e23 l23 h23
            have e23 : v23 = σ 0 21 := e23
            refine And.intro (fun c24 => ?_) (fun c24 => ?_)
            · refine And.intro (by omega) ?_
              have hF := hF.p (j := 21) (v := 1) (by decide)
              refine And.intro (rfl) (And.intro (⟨by omega, by omega⟩) ?_)
              have hF := hF.pt (t := 3) (j := 2) (v := 1) (by decide) (by decide)
              have hT : TH ((xput (xput σ 0 21 1) 3 2 1) 3) ((xput (xput σ 0 21 1) 3 2 1) 0 20) := by
                have e3 : (xput (xput σ 0 21 1) 3 2 1) 3 = up (σ 3) 2 1 := by first | exact xput_up | (rw [xput_up, xput_ne (by decide)])
                rw [e3]
                exact hT.k2
              refine s_next (σ := (xput (xput σ 0 21 1) 3 2 1))  (show 0 ≤ σ 0 4 ∧ σ 0 4 ≤ σ 0 3 ∧ σ 0 3 ≤ 940 from by omega) (fun σ27 f27 p27 => ?_)
              have p27 : σ27 0 3 = (σ 0 3) ∧ (σ 0 4) ≤ σ27 0 4 ∧ σ27 0 4 ≤ σ27 0 3 ∧ (0 ≤ σ27 0 11 ∧ σ27 0 11 ≤ 4) ∧ (1 ≤ σ27 0 11 ∧ σ27 0 11 ≤ 3 → (σ 0 4) < σ27 0 4 ∧ 0 ≤ σ27 0 14) := p27
              have hF := hF.tr f27 (by decide) (by decide)
              have hN : ∀ q : Nat, q < 6 → σ27 5 q = σ 5 q := fun q hq => (congrFun (f27.1 5 (by decide) (by decide)) q).trans (hN q hq)
              have kt27 : σ27 3 = (xput (xput σ 0 21 1) 3 2 1) 3 := f27.1 3 (by decide) (by decide)
              have k20_27 : σ27 0 20 = σ 0 20 := f27.2 20 (by decide)
              have hT : TH (σ27 3) (σ27 0 20) := by rw [kt27, k20_27]; exact hT
              have q0_27 := congrFun kt27 0; have q1_27 := congrFun kt27 1; have q7_27 := congrFun kt27 7
              refine And.intro rfl ?_
              refine And.intro (by omega) ?_
              exact hQ _ _ hF hN
            · refine s_badF (σ := σ) (kind := 3) (fun r28 σ28 f28 p28 => ?_)
              have p28 : r28 = 0 := p28
              have hF := hF.tr f28 (by decide) (by decide)
              have hN : ∀ q : Nat, q < 6 → σ28 5 q = σ 5 q := fun q hq => (congrFun (f28.1 5 (by decide) (by decide)) q).trans (hN q hq)
              have kt28 : σ28 3 = σ 3 := f28.1 3 (by decide) (by decide)
              have k20_28 : σ28 0 20 = σ 0 20 := f28.2 20 (by decide)
              have hT : TH (σ28 3) (σ28 0 20) := by rw [kt28, k20_28]; exact hT
              have q0_28 := congrFun kt28 0; have q1_28 := congrFun kt28 1; have q7_28 := congrFun kt28 7
              refine And.intro rfl ?_
              refine And.intro (by omega) ?_
              exact hQ _ _ hF hN
        · replace p7 : (σ 0 11) = 1 := by
            rcases p7 with q | q
            · exact q.2
            · exact absurd q.1 (by omega)
          refine s_readHeap (σ := σ) (show 0 ≤ σ 0 4 ∧ σ 0 4 ≤ σ 0 3 ∧ σ 0 3 ≤ 940 from by omega) hT (fun r29 σ29 f29 p29 => ?_)
          have p29 : (r29 = 1 ∧ TH (σ29 3) (σ29 0 20) ∧ σ29 0 3 = (σ 0 3) ∧ (σ 0 4) ≤ σ29 0 4 ∧ σ29 0 4 ≤ σ29 0 3 ∧ (σ29 0 11 = 3 → (σ 0 4) < σ29 0 4)) ∨ r29 = 0 := p29
          have hF := hF.tr f29 (by decide) (by decide)
          have hN : ∀ q : Nat, q < 6 → σ29 5 q = σ 5 q := fun q hq => (congrFun (f29.1 5 (by decide) (by decide)) q).trans (hN q hq)
          refine And.intro rfl ?_
          refine And.intro (by omega) ?_
          exact hQ _ _ hF hN
      · replace p5 : (σ 0 11) = 1 := by
          rcases p5 with q | q
          · exact q.2
          · exact absurd q.1 (by omega)
        refine s_readHand (σ := σ) (show 0 ≤ σ 0 4 ∧ σ 0 4 ≤ σ 0 3 ∧ σ 0 3 ≤ 940 from by omega) hT (fun r30 σ30 f30 p30 => ?_)
        have p30 : (r30 = 1 ∧ TH (σ30 3) (σ30 0 20) ∧ σ30 0 3 = (σ 0 3) ∧ (σ 0 4) ≤ σ30 0 4 ∧ σ30 0 4 ≤ σ30 0 3 ∧ (σ30 0 11 = 3 → (σ 0 4) < σ30 0 4)) ∨ r30 = 0 := p30
        have hF := hF.tr f30 (by decide) (by decide)
        have hN : ∀ q : Nat, q < 6 → σ30 5 q = σ 5 q := fun q hq => (congrFun (f30.1 5 (by decide) (by decide)) q).trans (hN q hq)
        refine And.intro rfl ?_
        refine And.intro (by omega) ?_
        exact hQ _ _ hF hN
    · replace p3 : (σ 0 11) = 1 := by
        rcases p3 with q | q
        · exact q.2
        · exact absurd q.1 (by omega)
      refine And.intro (rfl) (And.intro (⟨by omega, by omega⟩) ?_)
      intro v31 e31 l31 h31
      have e31 : v31 = σ 3 1 := e31
      have m0_v31 := hT.hd0
      refine And.intro (fun c32 => ?_) (fun c32 => ?_)
      · refine s_next (σ := σ)  (show 0 ≤ σ 0 4 ∧ σ 0 4 ≤ σ 0 3 ∧ σ 0 3 ≤ 940 from by omega) (fun σ33 f33 p33 => ?_)
        have p33 : σ33 0 3 = (σ 0 3) ∧ (σ 0 4) ≤ σ33 0 4 ∧ σ33 0 4 ≤ σ33 0 3 ∧ (0 ≤ σ33 0 11 ∧ σ33 0 11 ≤ 4) ∧ (1 ≤ σ33 0 11 ∧ σ33 0 11 ≤ 3 → (σ 0 4) < σ33 0 4 ∧ 0 ≤ σ33 0 14) := p33
        have hF := hF.tr f33 (by decide) (by decide)
        have hN : ∀ q : Nat, q < 6 → σ33 5 q = σ 5 q := fun q hq => (congrFun (f33.1 5 (by decide) (by decide)) q).trans (hN q hq)
        have kt33 : σ33 3 = σ 3 := f33.1 3 (by decide) (by decide)
        have k20_33 : σ33 0 20 = σ 0 20 := f33.2 20 (by decide)
        have hT : TH (σ33 3) (σ33 0 20) := by rw [kt33, k20_33]; exact hT
        have q0_33 := congrFun kt33 0; have q1_33 := congrFun kt33 1; have q7_33 := congrFun kt33 7
        refine s_isName (σ := σ33)   (fun r34 p34 => ?_)
        have p34 : (r34 = 1 ∧ (σ33 0 11) = 1) ∨ (r34 = 0 ∧ (0 : Int) ≤ 0) := p34
        refine And.intro (fun c35 => ?_) (fun c35 => ?_)
        · replace p34 : (σ33 0 11) = 1 := by
            rcases p34 with q | q
            · exact q.2
            · exact absurd q.1 (by omega)
          refine And.intro (rfl) (And.intro (⟨by omega, by omega⟩) ?_)
          intro v36 e36 l36 h36
          have e36 : v36 = σ33 3 1 := e36
          have m0_v36 := hT.hd0
          refine s_find (σ := σ33) (from_ := 6) (many := v36) (show (6 = 0 ∨ 6 = 6) ∧ v36 ≤ 6 from by omega) (fun r37 p37 => ?_)
          have p37 : -1 ≤ r37 ∧ (r37 = -1 ∨ r37 < v36) := p37
          refine And.intro (fun c38 => ?_) (fun c38 => ?_)
          · refine And.intro (rfl) (And.intro (⟨by omega, by omega⟩) ?_)
            intro v39 e39 l39 h39
            have e39 : v39 = σ33 3 1 := e39
            have m0_v39 := hT.hd0
            intro z40 t40 e40 l40 h40
            try have w40 : t40 = 0 := by omega
            intro v41 e41 l41 h41
            have e41 : v41 = σ33 0 17 := e41
            refine And.intro rfl (And.intro (⟨by omega, by omega⟩) ?_)
            have hF := hF.pt (t := 5) (j := z40.toNat) (v := v41) (by decide) (by decide)
            have hN : ∀ q : Nat, q < 6 → (xput σ33 5 z40.toNat v41) 5 q = σ 5 q := fun q hq => by rw [xput_o (by omega)]; exact hN q hq
            refine And.intro (rfl) (And.intro (⟨by omega, by omega⟩) ?_)
            intro v43 e43 l43 h43
            have e43 : v43 = σ33 3 1 := e43
            have m0_v43 := hT.hd0
            intro z44 t44 e44 l44 h44
            try have w44 : t44 = 0 := by omega
            refine And.intro (rfl) (And.intro (⟨by omega, by omega⟩) ?_)
            have hF := hF.pt (t := 3) (j := 1) (v := z44) (by decide) (by decide)
            have hT : TH ((xput (xput σ33 5 z40.toNat v41) 3 1 z44) 3) ((xput (xput σ33 5 z40.toNat v41) 3 1 z44) 0 20) := by
              have e3 : (xput (xput σ33 5 z40.toNat v41) 3 1 z44) 3 = up (σ33 3) 1 z44 := by first | exact xput_up | (rw [xput_up, xput_ne (by decide)])
              rw [e3]
              exact hT.k1 (by omega) (by omega)
            refine s_next (σ := (xput (xput σ33 5 z40.toNat v41) 3 1 z44))  (show 0 ≤ σ33 0 4 ∧ σ33 0 4 ≤ σ33 0 3 ∧ σ33 0 3 ≤ 940 from by omega) (fun σ46 f46 p46 => ?_)
            have p46 : σ46 0 3 = (σ33 0 3) ∧ (σ33 0 4) ≤ σ46 0 4 ∧ σ46 0 4 ≤ σ46 0 3 ∧ (0 ≤ σ46 0 11 ∧ σ46 0 11 ≤ 4) ∧ (1 ≤ σ46 0 11 ∧ σ46 0 11 ≤ 3 → (σ33 0 4) < σ46 0 4 ∧ 0 ≤ σ46 0 14) := p46
            have hF := hF.tr f46 (by decide) (by decide)
            have hN : ∀ q : Nat, q < 6 → σ46 5 q = σ 5 q := fun q hq => (congrFun (f46.1 5 (by decide) (by decide)) q).trans (hN q hq)
            have kt46 : σ46 3 = (xput (xput σ33 5 z40.toNat v41) 3 1 z44) 3 := f46.1 3 (by decide) (by decide)
            have k20_46 : σ46 0 20 = σ33 0 20 := f46.2 20 (by decide)
            have hT : TH (σ46 3) (σ46 0 20) := by rw [kt46, k20_46]; exact hT
            have q0_46 := congrFun kt46 0; have q1_46 := congrFun kt46 1; have q7_46 := congrFun kt46 7
            refine And.intro rfl ?_
            refine And.intro (by omega) ?_
            exact hQ _ _ hF hN
          · refine s_badF (σ := σ33) (kind := 3) (fun r47 σ47 f47 p47 => ?_)
            have p47 : r47 = 0 := p47
            have hF := hF.tr f47 (by decide) (by decide)
            have hN : ∀ q : Nat, q < 6 → σ47 5 q = σ 5 q := fun q hq => (congrFun (f47.1 5 (by decide) (by decide)) q).trans (hN q hq)
            have kt47 : σ47 3 = σ33 3 := f47.1 3 (by decide) (by decide)
            have k20_47 : σ47 0 20 = σ33 0 20 := f47.2 20 (by decide)
            have hT : TH (σ47 3) (σ47 0 20) := by rw [kt47, k20_47]; exact hT
            have q0_47 := congrFun kt47 0; have q1_47 := congrFun kt47 1; have q7_47 := congrFun kt47 7
            refine And.intro rfl ?_
            refine And.intro (by omega) ?_
            exact hQ _ _ hF hN
        · replace p34 : (0 : Int) ≤ 0 := by
            rcases p34 with q | q
            · exact absurd q.1 (by omega)
            · exact q.2
          refine s_badF (σ := σ33) (kind := 1) (fun r48 σ48 f48 p48 => ?_)
          have p48 : r48 = 0 := p48
          have hF := hF.tr f48 (by decide) (by decide)
          have hN : ∀ q : Nat, q < 6 → σ48 5 q = σ 5 q := fun q hq => (congrFun (f48.1 5 (by decide) (by decide)) q).trans (hN q hq)
          have kt48 : σ48 3 = σ33 3 := f48.1 3 (by decide) (by decide)
          have k20_48 : σ48 0 20 = σ33 0 20 := f48.2 20 (by decide)
          have hT : TH (σ48 3) (σ48 0 20) := by rw [kt48, k20_48]; exact hT
          have q0_48 := congrFun kt48 0; have q1_48 := congrFun kt48 1; have q7_48 := congrFun kt48 7
          refine And.intro rfl ?_
          refine And.intro (by omega) ?_
          exact hQ _ _ hF hN
      · refine s_badF (σ := σ) (kind := 4) (fun r49 σ49 f49 p49 => ?_)
        have p49 : r49 = 0 := p49
        have hF := hF.tr f49 (by decide) (by decide)
        have hN : ∀ q : Nat, q < 6 → σ49 5 q = σ 5 q := fun q hq => (congrFun (f49.1 5 (by decide) (by decide)) q).trans (hN q hq)
        have kt49 : σ49 3 = σ 3 := f49.1 3 (by decide) (by decide)
        have k20_49 : σ49 0 20 = σ 0 20 := f49.2 20 (by decide)
        have hT : TH (σ49 3) (σ49 0 20) := by rw [kt49, k20_49]; exact hT
        have q0_49 := congrFun kt49 0; have q1_49 := congrFun kt49 1; have q7_49 := congrFun kt49 7
        refine And.intro rfl ?_
        refine And.intro (by omega) ?_
        exact hQ _ _ hF hN
  · replace p1 : (σ 0 11) = 1 := by
      rcases p1 with q | q
      · exact q.2
      · exact absurd q.1 (by omega)
    intro v50 e50 l50 h50
    have e50 : v50 = σ 0 20 := e50
    refine And.intro (fun c51 => ?_) (fun c51 => ?_)
    · have hz := hT.2.2 (by omega)
      refine And.intro (by omega) ?_
      have hF := hF.p (j := 20) (v := 1) (by decide)
      have hT : TH ((xput σ 0 20 1) 3) ((xput σ 0 20 1) 0 20) := by
        show TH (σ 3) 1
        exact hT.kk (by omega)
      refine s_next (σ := (xput σ 0 20 1))  (show 0 ≤ σ 0 4 ∧ σ 0 4 ≤ σ 0 3 ∧ σ 0 3 ≤ 940 from by omega) (fun σ53 f53 p53 => ?_)
      have p53 : σ53 0 3 = (σ 0 3) ∧ (σ 0 4) ≤ σ53 0 4 ∧ σ53 0 4 ≤ σ53 0 3 ∧ (0 ≤ σ53 0 11 ∧ σ53 0 11 ≤ 4) ∧ (1 ≤ σ53 0 11 ∧ σ53 0 11 ≤ 3 → (σ 0 4) < σ53 0 4 ∧ 0 ≤ σ53 0 14) := p53
      have hF := hF.tr f53 (by decide) (by decide)
      have hN : ∀ q : Nat, q < 6 → σ53 5 q = σ 5 q := fun q hq => (congrFun (f53.1 5 (by decide) (by decide)) q).trans (hN q hq)
      have kt53 : σ53 3 = σ 3 := f53.1 3 (by decide) (by decide)
      have k20_53 : σ53 0 20 = 1 := f53.2 20 (by decide)
      have hT : TH (σ53 3) (σ53 0 20) := by rw [kt53, k20_53]; exact hT
      have q0_53 := congrFun kt53 0; have q1_53 := congrFun kt53 1; have q7_53 := congrFun kt53 7
      refine s_takes (σ := σ53) (low := 2) (high := 13) (show 0 ≤ σ53 0 4 ∧ σ53 0 4 ≤ σ53 0 3 ∧ σ53 0 3 ≤ 940 from by omega) (fun r54 σ54 f54 p54 => ?_)
      have p54 : (r54 = 1 ∧ (σ53 0 11) = 2 ∧ (2 ≤ σ54 0 18 ∧ σ54 0 18 ≤ 13) ∧ (σ54 0 3 = (σ53 0 3) ∧ (σ53 0 4) ≤ σ54 0 4 ∧ σ54 0 4 ≤ σ54 0 3 ∧ (0 ≤ σ54 0 11 ∧ σ54 0 11 ≤ 4) ∧ (1 ≤ σ54 0 11 ∧ σ54 0 11 ≤ 3 → (σ53 0 4) < σ54 0 4 ∧ 0 ≤ σ54 0 14))) ∨ (r54 = 0 ∧ (0 : Int) ≤ 0) := by
        rcases p54 with q | q
        · exact Or.inl q
        · exact Or.inr ⟨q, by omega⟩
      have hF := hF.tr f54 (by decide) (by decide)
      have hN : ∀ q : Nat, q < 6 → σ54 5 q = σ 5 q := fun q hq => (congrFun (f54.1 5 (by decide) (by decide)) q).trans (hN q hq)
      have kt54 : σ54 3 = σ53 3 := f54.1 3 (by decide) (by decide)
      have k20_54 : σ54 0 20 = σ53 0 20 := f54.2 20 (by decide)
      have hT : TH (σ54 3) (σ54 0 20) := by rw [kt54, k20_54]; exact hT
      have q0_54 := congrFun kt54 0; have q1_54 := congrFun kt54 1; have q7_54 := congrFun kt54 7
      refine And.intro (fun c55 => ?_) (fun c55 => ?_)
      · replace p54 : (σ53 0 11) = 2 ∧ (2 ≤ σ54 0 18 ∧ σ54 0 18 ≤ 13) ∧ (σ54 0 3 = (σ53 0 3) ∧ (σ53 0 4) ≤ σ54 0 4 ∧ σ54 0 4 ≤ σ54 0 3 ∧ (0 ≤ σ54 0 11 ∧ σ54 0 11 ≤ 4) ∧ (1 ≤ σ54 0 11 ∧ σ54 0 11 ≤ 3 → (σ53 0 4) < σ54 0 4 ∧ 0 ≤ σ54 0 14)) := by
          rcases p54 with q | q
          · exact q.2
          · exact absurd q.1 (by omega)
        intro v56 e56 l56 h56
        have e56 : v56 = σ54 0 18 := e56
        refine And.intro (rfl) (And.intro (⟨by omega, by omega⟩) ?_)
        have hF := hF.pt (t := 3) (j := 0) (v := v56) (by decide) (by decide)
        refine And.intro rfl ?_
        refine And.intro (by omega) ?_
        have hT : TH ((xput σ54 3 0 v56) 3) ((xput σ54 3 0 v56) 0 20) := by
          show TH (xput σ54 3 0 v56 3) (σ54 0 20)
          rw [xput_up]
          exact hT.k0 (by omega) (by omega) (by omega)
        exact hQ _ _ hF hN
      · replace p54 : (0 : Int) ≤ 0 := by
          rcases p54 with q | q
          · exact absurd q.1 (by omega)
          · exact q.2
        refine And.intro rfl ?_
        refine And.intro (by omega) ?_
        exact hQ _ _ hF hN
    · refine s_badF (σ := σ) (kind := 3) (fun r58 σ58 f58 p58 => ?_)
      have p58 : r58 = 0 := p58
      have hF := hF.tr f58 (by decide) (by decide)
      have hN : ∀ q : Nat, q < 6 → σ58 5 q = σ 5 q := fun q hq => (congrFun (f58.1 5 (by decide) (by decide)) q).trans (hN q hq)
      have kt58 : σ58 3 = σ 3 := f58.1 3 (by decide) (by decide)
      have k20_58 : σ58 0 20 = σ 0 20 := f58.2 20 (by decide)
      have hT : TH (σ58 3) (σ58 0 20) := by rw [kt58, k20_58]; exact hT
      have q0_58 := congrFun kt58 0; have q1_58 := congrFun kt58 1; have q7_58 := congrFun kt58 7
      refine And.intro rfl ?_
      refine And.intro (by omega) ?_
      exact hQ _ _ hF hN

