set_option maxHeartbeats 4000000 in
set_option maxRecDepth 100000 in
theorem sX1_readLineF {b nm : Nat → Int} {n m ps kd : Int} {s : EVx} {σ : xS} {Q : Option xV → xS → Prop} (hp0 : 0 ≤ σ 0 2 ∧ σ 0 2 ≤ 30) (hp1 : (0 ≤ σ 5 0 ∧ σ 5 0 ≤ 13) ∧ σ 5 0 = kd) (hp2 : (0 ≤ ps ∧ ps ≤ 6) ∧ σ 5 1 = ps) (hp3 : RDv σ b n m s.p) (hp4 : ∀ j : Nat, (j : Int) < 4 * s.l → σ 1 j = s.rd j) (hp5 : σ 0 2 = s.l) (hp6 : NMR (σ 6) nm ps) (hQ : ∀ r : Int, ∀ σ' : xS, Fr [1, 2] [] σ σ' → ((r = 1 ∧ ∃ t, evl nm ps kd b n m s = .inr t ∧ RDv σ' b n m t.p ∧ ∀ j : Nat, (j : Int) < 4 * s.l + 4 → σ' 1 j = t.rd j) ∨ (r = 0 ∧ evl nm ps kd b n m s = .inl (σ' 2 9, σ' 2 10))) → Q (some (xvi r)) σ') : xT kX1_readLine [xvr 0, xvr 5] σ Q := by
  refine ⟨Nat.le_of_ble_eq_true rfl, fun X hX => ?_⟩
  show X 0 [xvr 0, xvr 5] σ
  have hF : Fr [1, 2] [] σ σ := Fr.rf
  refine hX 400 0 _ _ ?_
  have hR := hp3
  have hl := hp5
  have hps := hp2.2
  have hN := hp6
  have hO : ∀ j : Nat, ((j : Int) < 4 * σ 0 2) → σ 1 j = σ 1 j := fun _ _ => rfl
  have hR : RDv σ b n m s.p := hR
  refine ePer (σ := σ) hR (by rw [show σ 5 1 = ps from (show σ 5 1 = ps from (congrFun (hF.1 5 (by decide) (by decide)) 1).trans hps)]; omega) (show σ 5 1 = ps from (congrFun (hF.1 5 (by decide) (by decide)) 1).trans hps) (by rw [(show σ 6 = σ 6 from hF.1 6 (by decide) (by decide))]; exact hN) (fun c1 d1 σ1 f1 hR => ?_) (fun c1 σ1 f1 hE => ?_) (fun c1 d1 σ1 f1 hE => ?_)
  · have hF := hF.tr f1 (by decide) (by decide)
    have hO : ∀ j : Nat, ((j : Int) < 4 * σ 0 2) → σ1 1 j = σ 1 j := fun j hj => (congrFun (f1.1 1 (by decide) (by decide)) j).trans (hO j hj)
    have kl1 : σ1 0 2 = σ 0 2 := hF.2 2 (by decide)
    refine And.intro (fun _ => ?_) (fun c2 => absurd c2 (by decide))
    intro v3 e3 l3 h3
    have e3 : v3 = σ1 0 2 := e3
    refine And.intro (fun c4 => ?_) (fun c4 => ?_)
    · intro v5 e5 l5 h5
      have e5 : v5 = σ1 0 2 := e5
      intro z6 t6 e6 l6 h6
      try have w6 : t6 = 0 := by omega
      intro v7 e7 l7 h7
      have e7 : v7 = σ1 2 8 := e7
      have hR : RDv σ1 b n m s.p := hR
      refine eFind (σ := σ1) hR (by omega) (by rw [show σ1 5 1 = ps from (show σ1 5 1 = ps from (congrFun (hF.1 5 (by decide) (by decide)) 1).trans hps)]; omega) (show σ1 5 1 = ps from (congrFun (hF.1 5 (by decide) (by decide)) 1).trans hps) (by rw [(show σ1 6 = σ 6 from hF.1 6 (by decide) (by decide))]; exact hN) (by omega) ?_
      have fr8 := fnd_r nm (tkw b n m s.p) ps.toNat
      refine And.intro (rfl) (And.intro (⟨by omega, by omega⟩) ?_)
      have hF := hF.pt (t := 1) (j := z6.toNat) (v := (fnd nm ps.toNat (tkw b n m s.p))) (by decide) (by decide)
      have hO : ∀ j : Nat, ((j : Int) < 4 * σ 0 2) → (xput σ1 1 z6.toNat (fnd nm ps.toNat (tkw b n m s.p))) 1 j = σ 1 j := fun j hj => by
        show xput σ1 1 z6.toNat (fnd nm ps.toNat (tkw b n m s.p)) 1 j = σ 1 j
        refine Eq.trans (b := σ1 1 j) ?_ (hO j hj)
        rw [xput_up, up_n (by omega)]
      have hA : (xput σ1 1 z6.toNat (fnd nm ps.toNat (tkw b n m s.p))) 1 (4 * σ 0 2).toNat = fnd nm ps.toNat (tkw b n m s.p) := by
        show xput σ1 1 z6.toNat (fnd nm ps.toNat (tkw b n m s.p)) 1 (4 * σ 0 2).toNat = _
        rw [xput_up, show z6.toNat = (4 * σ 0 2).toNat from by omega, up_s]
      have hR : RDv (xput σ1 1 z6.toNat (fnd nm ps.toNat (tkw b n m s.p))) b n m s.p := hR
      refine eAdv (σ := (xput σ1 1 z6.toNat (fnd nm ps.toNat (tkw b n m s.p)))) hR (fun σ10 f10 hR => ?_)
      have hF := hF.tr f10 (by decide) (by decide)
      have hO : ∀ j : Nat, ((j : Int) < 4 * σ 0 2) → σ10 1 j = σ 1 j := fun j hj => (congrFun (f10.1 1 (by decide) (by decide)) j).trans (hO j hj)
      have kl10 : σ10 0 2 = σ 0 2 := hF.2 2 (by decide)
      have hA : σ10 1 (4 * σ 0 2).toNat = fnd nm ps.toNat (tkw b n m s.p) := (congrFun (f10.1 1 (by decide) (by decide)) _).trans hA
      have hR : RDv σ10 b n m (tkp b n m s.p) := hR
      refine ePass (σ := σ10) hR (fun c11 σ11 f11 hR => ?_) (fun c11 σ11 f11 hE => ?_)
      · have hF := hF.tr f11 (by decide) (by decide)
        have hO : ∀ j : Nat, ((j : Int) < 4 * σ 0 2) → σ11 1 j = σ 1 j := fun j hj => (congrFun (f11.1 1 (by decide) (by decide)) j).trans (hO j hj)
        have kl11 : σ11 0 2 = σ 0 2 := hF.2 2 (by decide)
        have hA : σ11 1 (4 * σ 0 2).toNat = fnd nm ps.toNat (tkw b n m s.p) := (congrFun (f11.1 1 (by decide) (by decide)) _).trans hA
        refine And.intro (fun c12 => absurd c12 (by decide)) (fun _ => ?_)
        have hR : RDv σ11 b n m (tkp b n m (tkp b n m s.p)) := hR
        refine ePer (σ := σ11) hR (by rw [show σ11 5 1 = ps from (show σ11 5 1 = ps from (congrFun (hF.1 5 (by decide) (by decide)) 1).trans hps)]; omega) (show σ11 5 1 = ps from (congrFun (hF.1 5 (by decide) (by decide)) 1).trans hps) (by rw [(show σ11 6 = σ 6 from hF.1 6 (by decide) (by decide))]; exact hN) (fun c13 d13 σ13 f13 hR => ?_) (fun c13 σ13 f13 hE => ?_) (fun c13 d13 σ13 f13 hE => ?_)
        · have hF := hF.tr f13 (by decide) (by decide)
          have hO : ∀ j : Nat, ((j : Int) < 4 * σ 0 2) → σ13 1 j = σ 1 j := fun j hj => (congrFun (f13.1 1 (by decide) (by decide)) j).trans (hO j hj)
          have kl13 : σ13 0 2 = σ 0 2 := hF.2 2 (by decide)
          have hA : σ13 1 (4 * σ 0 2).toNat = fnd nm ps.toNat (tkw b n m s.p) := (congrFun (f13.1 1 (by decide) (by decide)) _).trans hA
          refine And.intro (fun _ => ?_) (fun c14 => absurd c14 (by decide))
          intro v15 e15 l15 h15
          have e15 : v15 = σ13 0 2 := e15
          intro z16 t16 e16 l16 h16
          try have w16 : t16 = 0 := by omega
          intro z17 t17 e17 l17 h17
          try have w17 : t17 = 0 := by omega
          intro v18 e18 l18 h18
          have e18 : v18 = σ13 2 8 := e18
          have hR : RDv σ13 b n m (tkp b n m (tkp b n m s.p)) := hR
          refine eFind (σ := σ13) hR (by omega) (by rw [show σ13 5 1 = ps from (show σ13 5 1 = ps from (congrFun (hF.1 5 (by decide) (by decide)) 1).trans hps)]; omega) (show σ13 5 1 = ps from (congrFun (hF.1 5 (by decide) (by decide)) 1).trans hps) (by rw [(show σ13 6 = σ 6 from hF.1 6 (by decide) (by decide))]; exact hN) (by omega) ?_
          have fr19 := fnd_r nm (tkw b n m (tkp b n m (tkp b n m s.p))) ps.toNat
          refine And.intro (rfl) (And.intro (⟨by omega, by omega⟩) ?_)
          have hF := hF.pt (t := 1) (j := z17.toNat) (v := (fnd nm ps.toNat (tkw b n m (tkp b n m (tkp b n m s.p))))) (by decide) (by decide)
          have hO : ∀ j : Nat, ((j : Int) < 4 * σ 0 2) → (xput σ13 1 z17.toNat (fnd nm ps.toNat (tkw b n m (tkp b n m (tkp b n m s.p))))) 1 j = σ 1 j := fun j hj => by
            show xput σ13 1 z17.toNat (fnd nm ps.toNat (tkw b n m (tkp b n m (tkp b n m s.p)))) 1 j = σ 1 j
            refine Eq.trans (b := σ13 1 j) ?_ (hO j hj)
            rw [xput_up, up_n (by omega)]
          have hA : (xput σ13 1 z17.toNat (fnd nm ps.toNat (tkw b n m (tkp b n m (tkp b n m s.p))))) 1 (4 * σ 0 2).toNat = fnd nm ps.toNat (tkw b n m s.p) := by
            show xput σ13 1 z17.toNat (fnd nm ps.toNat (tkw b n m (tkp b n m (tkp b n m s.p)))) 1 (4 * σ 0 2).toNat = _
            rw [xput_up, up_n (by omega)]
            exact hA
          have hB : (xput σ13 1 z17.toNat (fnd nm ps.toNat (tkw b n m (tkp b n m (tkp b n m s.p))))) 1 (4 * σ 0 2 + 1).toNat = fnd nm ps.toNat (tkw b n m (tkp b n m (tkp b n m s.p))) := by
            show xput σ13 1 z17.toNat (fnd nm ps.toNat (tkw b n m (tkp b n m (tkp b n m s.p)))) 1 (4 * σ 0 2 + 1).toNat = _
            rw [xput_up, show z17.toNat = (4 * σ 0 2 + 1).toNat from by omega, up_s]
          have hR : RDv (xput σ13 1 z17.toNat (fnd nm ps.toNat (tkw b n m (tkp b n m (tkp b n m s.p))))) b n m (tkp b n m (tkp b n m s.p)) := hR
          refine eAdv (σ := (xput σ13 1 z17.toNat (fnd nm ps.toNat (tkw b n m (tkp b n m (tkp b n m s.p)))))) hR (fun σ21 f21 hR => ?_)
          have hF := hF.tr f21 (by decide) (by decide)
          have hO : ∀ j : Nat, ((j : Int) < 4 * σ 0 2) → σ21 1 j = σ 1 j := fun j hj => (congrFun (f21.1 1 (by decide) (by decide)) j).trans (hO j hj)
          have kl21 : σ21 0 2 = σ 0 2 := hF.2 2 (by decide)
          have hA : σ21 1 (4 * σ 0 2).toNat = fnd nm ps.toNat (tkw b n m s.p) := (congrFun (f21.1 1 (by decide) (by decide)) _).trans hA
          have hB : σ21 1 (4 * σ 0 2 + 1).toNat = fnd nm ps.toNat (tkw b n m (tkp b n m (tkp b n m s.p))) := (congrFun (f21.1 1 (by decide) (by decide)) _).trans hB
          intro v22 e22 l22 h22
          have e22 : v22 = σ21 5 0 := e22
          replace e22 : v22 = kd := by
            rw [e22, hF.1 5 (by decide) (by decide)]; exact hp1.2
          intro z23 t23 e23 l23 h23
          try have w23 : t23 = 0 := by omega
          have hR : RDv σ21 b n m (tkp b n m (tkp b n m (tkp b n m s.p))) := hR
          refine eNum (σ := σ21) hR (fun c24 d24 σ24 f24 hR => ?_) (fun c24 σ24 f24 hE => ?_) (fun c24 d24 σ24 f24 hE => ?_)
          · have hF := hF.tr f24 (by decide) (by decide)
            have hO : ∀ j : Nat, ((j : Int) < 4 * σ 0 2) → σ24 1 j = σ 1 j := fun j hj => (congrFun (f24.1 1 (by decide) (by decide)) j).trans (hO j hj)
            have kl24 : σ24 0 2 = σ 0 2 := hF.2 2 (by decide)
            have hA : σ24 1 (4 * σ 0 2).toNat = fnd nm ps.toNat (tkw b n m s.p) := (congrFun (f24.1 1 (by decide) (by decide)) _).trans hA
            have hB : σ24 1 (4 * σ 0 2 + 1).toNat = fnd nm ps.toNat (tkw b n m (tkp b n m (tkp b n m s.p))) := (congrFun (f24.1 1 (by decide) (by decide)) _).trans hB
            refine And.intro (fun _ => ?_) (fun c25 => absurd c25 (by decide))
            intro v26 e26 l26 h26
            have e26 : v26 = σ24 0 2 := e26
            intro z27 t27 e27 l27 h27
            try have w27 : t27 = 0 := by omega
            intro z28 t28 e28 l28 h28
            try have w28 : t28 = 0 := by omega
            intro v29 e29 l29 h29
            have e29 : v29 = σ24 2 7 := e29
            refine And.intro (rfl) (And.intro (⟨by omega, by omega⟩) ?_)
            have hF := hF.pt (t := 1) (j := z28.toNat) (v := v29) (by decide) (by decide)
            have hvv : v29 = tkv b n m (tkp b n m (tkp b n m (tkp b n m s.p))) := by
              have z := hR.tk.2.1 (by omega)
              omega
            have hO : ∀ j : Nat, ((j : Int) < 4 * σ 0 2) → (xput σ24 1 z28.toNat v29) 1 j = σ 1 j := fun j hj => by
              show xput σ24 1 z28.toNat v29 1 j = σ 1 j
              refine Eq.trans (b := σ24 1 j) ?_ (hO j hj)
              rw [xput_up, up_n (by omega)]
            have hA : (xput σ24 1 z28.toNat v29) 1 (4 * σ 0 2).toNat = fnd nm ps.toNat (tkw b n m s.p) := by
              show xput σ24 1 z28.toNat v29 1 (4 * σ 0 2).toNat = _
              rw [xput_up, up_n (by omega)]
              exact hA
            have hB : (xput σ24 1 z28.toNat v29) 1 (4 * σ 0 2 + 1).toNat = fnd nm ps.toNat (tkw b n m (tkp b n m (tkp b n m s.p))) := by
              show xput σ24 1 z28.toNat v29 1 (4 * σ 0 2 + 1).toNat = _
              rw [xput_up, up_n (by omega)]
              exact hB
            have hC : (xput σ24 1 z28.toNat v29) 1 (4 * σ 0 2 + 2).toNat = tkv b n m (tkp b n m (tkp b n m (tkp b n m s.p))) := by
              show xput σ24 1 z28.toNat v29 1 (4 * σ 0 2 + 2).toNat = _
              rw [xput_up, show z28.toNat = (4 * σ 0 2 + 2).toNat from by omega, up_s, hvv]
            have hR : RDv (xput σ24 1 z28.toNat v29) b n m (tkp b n m (tkp b n m (tkp b n m s.p))) := hR
            refine eAdv (σ := (xput σ24 1 z28.toNat v29)) hR (fun σ31 f31 hR => ?_)
            have hF := hF.tr f31 (by decide) (by decide)
            have hO : ∀ j : Nat, ((j : Int) < 4 * σ 0 2) → σ31 1 j = σ 1 j := fun j hj => (congrFun (f31.1 1 (by decide) (by decide)) j).trans (hO j hj)
            have kl31 : σ31 0 2 = σ 0 2 := hF.2 2 (by decide)
            have hA : σ31 1 (4 * σ 0 2).toNat = fnd nm ps.toNat (tkw b n m s.p) := (congrFun (f31.1 1 (by decide) (by decide)) _).trans hA
            have hB : σ31 1 (4 * σ 0 2 + 1).toNat = fnd nm ps.toNat (tkw b n m (tkp b n m (tkp b n m s.p))) := (congrFun (f31.1 1 (by decide) (by decide)) _).trans hB
            have hC : σ31 1 (4 * σ 0 2 + 2).toNat = tkv b n m (tkp b n m (tkp b n m (tkp b n m s.p))) := (congrFun (f31.1 1 (by decide) (by decide)) _).trans hC
            refine sX1_readAnswerF (σ := σ31) (b := b) (n := n) (m := m) (p := (tkp b n m (tkp b n m (tkp b n m (tkp b n m s.p))))) (by omega) hR (fun r32 σ32 f32 p32 => ?_)
            have hF := hF.tr f32 (by decide) (by decide)
            have hp9032 : (tkp b n m (tkp b n m (tkp b n m (tkp b n m s.p)))) = (tkp b n m (tkp b n m (tkp b n m (tkp b n m s.p)))) := rfl
            refine And.intro rfl ?_
            refine And.intro (by omega) ?_
            rcases p32 with ⟨q1, y, q2, q3, q4, q5⟩ | ⟨q1, q2⟩
            · refine hQ _ _ hF (Or.inl ⟨q1, _, evl_y (by omega) (by omega) (by omega) (by omega) (by omega) (by omega) (by omega) (by omega) q2, q3, ?_⟩)
              refine ev4_rows (by omega) (fun j hj => ?_) ?_ ?_ ?_ ?_
              · rw [q5 j (by omega), hO j (by omega)]; exact hp4 j (by omega)
              · rw [← hl]; rw [q5 _ (by omega)]; exact hA
              · rw [← hl]; rw [q5 _ (by omega)]; exact hB
              · rw [← hl]; rw [q5 _ (by omega)]; exact hC
              · rw [← hl]; rw [← q4, show σ31 0 2 = σ 0 2 from by omega]
            · exact hQ _ _ hF (Or.inr ⟨q1, evl_x (by omega) (by omega) (by omega) (by omega) (by omega) (by omega) (by omega) (by omega) q2⟩)
          · have hF := hF.tr f24 (by decide) (by decide)
            have hO : ∀ j : Nat, ((j : Int) < 4 * σ 0 2) → σ24 1 j = σ 1 j := fun j hj => (congrFun (f24.1 1 (by decide) (by decide)) j).trans (hO j hj)
            have kl24 : σ24 0 2 = σ 0 2 := hF.2 2 (by decide)
            have hA : σ24 1 (4 * σ 0 2).toNat = fnd nm ps.toNat (tkw b n m s.p) := (congrFun (f24.1 1 (by decide) (by decide)) _).trans hA
            have hB : σ24 1 (4 * σ 0 2 + 1).toNat = fnd nm ps.toNat (tkw b n m (tkp b n m (tkp b n m s.p))) := (congrFun (f24.1 1 (by decide) (by decide)) _).trans hB
            refine And.intro (fun c33 => absurd (by decide) c33) (fun _ => ?_)
            refine And.intro rfl ?_
            refine And.intro (by omega) ?_
            exact hQ _ _ hF (Or.inr ⟨rfl, by
              rw [hE.1, hE.2]
              first | exact evl_0 (by omega) | exact evl_1 (by omega) (by omega) | exact evl_2 (by omega) (by omega) (by omega) | exact evl_3 (by omega) (by omega) (by omega) (by omega) | exact evl_4 (by omega) (by omega) (by omega) (by omega) (by omega) | exact evl_5 (by omega) (by omega) (by omega) (by omega) (by omega) (by omega) | exact evl_6 (by omega) (by omega) (by omega) (by omega) (by omega) (by omega) (by omega) | exact evl_7 (by omega) (by omega) (by omega) (by omega) (by omega) (by omega) (by omega) (by omega)⟩)
          · have hF := hF.tr f24 (by decide) (by decide)
            have hO : ∀ j : Nat, ((j : Int) < 4 * σ 0 2) → σ24 1 j = σ 1 j := fun j hj => (congrFun (f24.1 1 (by decide) (by decide)) j).trans (hO j hj)
            have kl24 : σ24 0 2 = σ 0 2 := hF.2 2 (by decide)
            have hA : σ24 1 (4 * σ 0 2).toNat = fnd nm ps.toNat (tkw b n m s.p) := (congrFun (f24.1 1 (by decide) (by decide)) _).trans hA
            have hB : σ24 1 (4 * σ 0 2 + 1).toNat = fnd nm ps.toNat (tkw b n m (tkp b n m (tkp b n m s.p))) := (congrFun (f24.1 1 (by decide) (by decide)) _).trans hB
            refine And.intro (fun c34 => absurd (by decide) c34) (fun _ => ?_)
            refine And.intro rfl ?_
            refine And.intro (by omega) ?_
            exact hQ _ _ hF (Or.inr ⟨rfl, by
              rw [hE.1, hE.2]
              first | exact evl_0 (by omega) | exact evl_1 (by omega) (by omega) | exact evl_2 (by omega) (by omega) (by omega) | exact evl_3 (by omega) (by omega) (by omega) (by omega) | exact evl_4 (by omega) (by omega) (by omega) (by omega) (by omega) | exact evl_5 (by omega) (by omega) (by omega) (by omega) (by omega) (by omega) | exact evl_6 (by omega) (by omega) (by omega) (by omega) (by omega) (by omega) (by omega) | exact evl_7 (by omega) (by omega) (by omega) (by omega) (by omega) (by omega) (by omega) (by omega)⟩)
        · have hF := hF.tr f13 (by decide) (by decide)
          have hO : ∀ j : Nat, ((j : Int) < 4 * σ 0 2) → σ13 1 j = σ 1 j := fun j hj => (congrFun (f13.1 1 (by decide) (by decide)) j).trans (hO j hj)
          have kl13 : σ13 0 2 = σ 0 2 := hF.2 2 (by decide)
          have hA : σ13 1 (4 * σ 0 2).toNat = fnd nm ps.toNat (tkw b n m s.p) := (congrFun (f13.1 1 (by decide) (by decide)) _).trans hA
          refine And.intro (fun c35 => absurd (by decide) c35) (fun _ => ?_)
          refine hX 400 83 _ _ ?_
          refine And.intro rfl ?_
          refine And.intro (by omega) ?_
          exact hQ _ _ hF (Or.inr ⟨rfl, by
            rw [hE.1, hE.2]
            first | exact evl_0 (by omega) | exact evl_1 (by omega) (by omega) | exact evl_2 (by omega) (by omega) (by omega) | exact evl_3 (by omega) (by omega) (by omega) (by omega) | exact evl_4 (by omega) (by omega) (by omega) (by omega) (by omega) | exact evl_5 (by omega) (by omega) (by omega) (by omega) (by omega) (by omega) | exact evl_6 (by omega) (by omega) (by omega) (by omega) (by omega) (by omega) (by omega) | exact evl_7 (by omega) (by omega) (by omega) (by omega) (by omega) (by omega) (by omega) (by omega)⟩)
        · have hF := hF.tr f13 (by decide) (by decide)
          have hO : ∀ j : Nat, ((j : Int) < 4 * σ 0 2) → σ13 1 j = σ 1 j := fun j hj => (congrFun (f13.1 1 (by decide) (by decide)) j).trans (hO j hj)
          have kl13 : σ13 0 2 = σ 0 2 := hF.2 2 (by decide)
          have hA : σ13 1 (4 * σ 0 2).toNat = fnd nm ps.toNat (tkw b n m s.p) := (congrFun (f13.1 1 (by decide) (by decide)) _).trans hA
          refine And.intro (fun c36 => absurd (by decide) c36) (fun _ => ?_)
          refine hX 400 83 _ _ ?_
          refine And.intro rfl ?_
          refine And.intro (by omega) ?_
          exact hQ _ _ hF (Or.inr ⟨rfl, by
            rw [hE.1, hE.2]
            first | exact evl_0 (by omega) | exact evl_1 (by omega) (by omega) | exact evl_2 (by omega) (by omega) (by omega) | exact evl_3 (by omega) (by omega) (by omega) (by omega) | exact evl_4 (by omega) (by omega) (by omega) (by omega) (by omega) | exact evl_5 (by omega) (by omega) (by omega) (by omega) (by omega) (by omega) | exact evl_6 (by omega) (by omega) (by omega) (by omega) (by omega) (by omega) (by omega) | exact evl_7 (by omega) (by omega) (by omega) (by omega) (by omega) (by omega) (by omega) (by omega)⟩)
      · have hF := hF.tr f11 (by decide) (by decide)
        have hO : ∀ j : Nat, ((j : Int) < 4 * σ 0 2) → σ11 1 j = σ 1 j := fun j hj => (congrFun (f11.1 1 (by decide) (by decide)) j).trans (hO j hj)
        have kl11 : σ11 0 2 = σ 0 2 := hF.2 2 (by decide)
        have hA : σ11 1 (4 * σ 0 2).toNat = fnd nm ps.toNat (tkw b n m s.p) := (congrFun (f11.1 1 (by decide) (by decide)) _).trans hA
        refine And.intro (fun _ => ?_) (fun c37 => absurd (by decide) c37)
        refine hX 400 83 _ _ ?_
        refine And.intro rfl ?_
        refine And.intro (by omega) ?_
        exact hQ _ _ hF (Or.inr ⟨rfl, by
          rw [hE.1, hE.2]
          first | exact evl_0 (by omega) | exact evl_1 (by omega) (by omega) | exact evl_2 (by omega) (by omega) (by omega) | exact evl_3 (by omega) (by omega) (by omega) (by omega) | exact evl_4 (by omega) (by omega) (by omega) (by omega) (by omega) | exact evl_5 (by omega) (by omega) (by omega) (by omega) (by omega) (by omega) | exact evl_6 (by omega) (by omega) (by omega) (by omega) (by omega) (by omega) (by omega) | exact evl_7 (by omega) (by omega) (by omega) (by omega) (by omega) (by omega) (by omega) (by omega)⟩)
    · have hR : RDv σ1 b n m s.p := hR
      refine eFail (σ := σ1) hR (fun σ38 f38 hE => ?_)
      have hF := hF.tr f38 (by decide) (by decide)
      have hO : ∀ j : Nat, ((j : Int) < 4 * σ 0 2) → σ38 1 j = σ 1 j := fun j hj => (congrFun (f38.1 1 (by decide) (by decide)) j).trans (hO j hj)
      have kl38 : σ38 0 2 = σ 0 2 := hF.2 2 (by decide)
      refine And.intro rfl ?_
      refine And.intro (by omega) ?_
      exact hQ _ _ hF (Or.inr ⟨rfl, by
        rw [hE.1, hE.2]
        first | exact evl_0 (by omega) | exact evl_1 (by omega) (by omega) | exact evl_2 (by omega) (by omega) (by omega) | exact evl_3 (by omega) (by omega) (by omega) (by omega) | exact evl_4 (by omega) (by omega) (by omega) (by omega) (by omega) | exact evl_5 (by omega) (by omega) (by omega) (by omega) (by omega) (by omega) | exact evl_6 (by omega) (by omega) (by omega) (by omega) (by omega) (by omega) (by omega) | exact evl_7 (by omega) (by omega) (by omega) (by omega) (by omega) (by omega) (by omega) (by omega)⟩)
  · have hF := hF.tr f1 (by decide) (by decide)
    have hO : ∀ j : Nat, ((j : Int) < 4 * σ 0 2) → σ1 1 j = σ 1 j := fun j hj => (congrFun (f1.1 1 (by decide) (by decide)) j).trans (hO j hj)
    have kl1 : σ1 0 2 = σ 0 2 := hF.2 2 (by decide)
    refine And.intro (fun c39 => absurd (by decide) c39) (fun _ => ?_)
    refine And.intro rfl ?_
    refine And.intro (by omega) ?_
    exact hQ _ _ hF (Or.inr ⟨rfl, by
      rw [hE.1, hE.2]
      first | exact evl_0 (by omega) | exact evl_1 (by omega) (by omega) | exact evl_2 (by omega) (by omega) (by omega) | exact evl_3 (by omega) (by omega) (by omega) (by omega) | exact evl_4 (by omega) (by omega) (by omega) (by omega) (by omega) | exact evl_5 (by omega) (by omega) (by omega) (by omega) (by omega) (by omega) | exact evl_6 (by omega) (by omega) (by omega) (by omega) (by omega) (by omega) (by omega) | exact evl_7 (by omega) (by omega) (by omega) (by omega) (by omega) (by omega) (by omega) (by omega)⟩)
  · have hF := hF.tr f1 (by decide) (by decide)
    have hO : ∀ j : Nat, ((j : Int) < 4 * σ 0 2) → σ1 1 j = σ 1 j := fun j hj => (congrFun (f1.1 1 (by decide) (by decide)) j).trans (hO j hj)
    have kl1 : σ1 0 2 = σ 0 2 := hF.2 2 (by decide)
    refine And.intro (fun c40 => absurd (by decide) c40) (fun _ => ?_)
    refine And.intro rfl ?_
    refine And.intro (by omega) ?_
    exact hQ _ _ hF (Or.inr ⟨rfl, by
      rw [hE.1, hE.2]
      first | exact evl_0 (by omega) | exact evl_1 (by omega) (by omega) | exact evl_2 (by omega) (by omega) (by omega) | exact evl_3 (by omega) (by omega) (by omega) (by omega) | exact evl_4 (by omega) (by omega) (by omega) (by omega) (by omega) | exact evl_5 (by omega) (by omega) (by omega) (by omega) (by omega) (by omega) | exact evl_6 (by omega) (by omega) (by omega) (by omega) (by omega) (by omega) (by omega) | exact evl_7 (by omega) (by omega) (by omega) (by omega) (by omega) (by omega) (by omega) (by omega)⟩)
