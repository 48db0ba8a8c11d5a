set_option maxHeartbeats 4000000 in
set_option maxRecDepth 100000 in
theorem s_goes {σ : xS} {code kind : Int} {Q : Option xV → xS → Prop} (hp0 : OPx (σ 2)) (hp1 : GD (σ 2) code) (hp2 : 0 ≤ kind ∧ kind < σ 2 0) (hp3 : 0 < dm code kind.toNat) (hQ : ∀ σ' : xS, Fr [18, 19] [42, 43, 44, 45, 46] σ σ' → ((σ' 0 44 = -1 ∨ (GD (σ 2) (σ' 0 44) ∧ rkc (σ 2) (σ' 0 44) < rkc (σ 2) code)) ∧ (-9 ≤ σ' 0 45 ∧ σ' 0 45 ≤ 9) ∧ (σ' 0 46 = 1 ∨ σ' 0 46 = -1)) → Q none σ') : xT kX11_goes [xvr 0, xvi code, xvi kind] σ Q := by
  refine ⟨Nat.le_of_ble_eq_true rfl, fun X hX => ?_⟩
  show X 0 [xvr 0, xvi code, xvi kind, xvu, xvu] σ
  have hF : Fr [18, 19] [42, 43, 44, 45, 46] σ σ := Fr.rf
  refine hX 400 0 _ _ ?_
  have m7 := hp0.1; have m0 := hp0.2.1; have m3 := hp0.2.2.1
  refine s_decode (σ := σ) (code := code) (by have := hp1.1; omega) (fun σ1 f1 p1 => ?_)
  have hF := hF.tr f1 (by decide) (by decide)
  have hG : GB (σ 2) (σ1 18) (σ1 19) (σ1 0 42) := hp1.2.1.eq (fun q hq => (p1.1 q hq).1) (fun q hq => (p1.1 q hq).2) p1.2.1
  have hR : ph (σ 2) (σ1 18) (σ1 19) (σ1 0 42) = ph (σ 2) (dm code) (dh code) (code / 2 % 5) := ph_eq (fun q hq => (p1.1 q hq).1) (fun q hq => (p1.1 q hq).2) p1.2.1
  have p43 : σ1 0 43 = code % 2 := p1.2.2
  have hs2 : σ1 2 = σ 2 := f1.1 2 (by decide) (by decide)
  have q7 := congrFun hs2 7
  have hg1 := hG.1
  have hkd : σ1 18 kind.toNat = dm code kind.toNat := (p1.1 kind.toNat (by omega)).1
  have hbk := hG.b (k := kind.toNat) (by omega)
  have hF := hF.p (j := 45) (v := 0) (by decide)
  refine And.intro (rfl) (And.intro (⟨by omega, by omega⟩) ?_)
  intro v3 e3 l3 h3
  have e3 : v3 = σ1 19 kind.toNat := e3
  refine And.intro (fun c4 => ?_) (fun c4 => ?_)
  · refine And.intro (Nat.le_of_ble_eq_true rfl) ?_
    show xw _ _ _ _ _ _ _ _ _ _ [xvr 0, xvi code, xvi kind, xvi 0, xvu] _ _
    have lp_183 : ∀ (stays : Int) (u5_4 : xV) (s1 : xS), (Fr [18, 19] [42, 43, 44, 45, 46] σ s1 ∧ GB (σ 2) (s1 18) (s1 19) (s1 0 42) ∧ 3 * ph (σ 2) (s1 18) (s1 19) (s1 0 42) + 2 - s1 0 43 < rkc (σ 2) code ∧ ((0 ≤ s1 0 43 ∧ s1 0 43 ≤ 2) ∧ (0 ≤ s1 0 45 ∧ s1 0 45 ≤ 1) ∧ (stays = 0 ∨ stays = 1))) → X 183 [xvr 0, xvi code, xvi kind, xvi stays, u5_4] s1 := by
      intro stays u5_4 s1 hv_183
      obtain ⟨hF, hG, hR, hv_183⟩ := hv_183
      have hs2 : s1 2 = σ 2 := hF.1 2 (by decide) (by decide)
      refine hX 400 183 _ _ ?_
      have hF := hF.p (j := 44) (v := (-1)) (by decide)
      have hF := hF.p (j := 46) (v := 1) (by decide)
      intro v8 e8 l8 h8
      have e8 : v8 = s1 0 43 := e8
      refine And.intro (fun c9 => ?_) (fun c9 => ?_)
      · have lp_320 : ∀ (stays2 : Int) (s2 : xS), (Fr [18, 19] [42, 43, 44, 45, 46] σ s2 ∧ GB (σ 2) (s2 18) (s2 19) (s2 0 42) ∧ 3 * ph (σ 2) (s2 18) (s2 19) (s2 0 42) + 2 - s2 0 43 < rkc (σ 2) code ∧ ((0 ≤ s2 0 43 ∧ s2 0 43 ≤ 1) ∧ (-9 ≤ s2 0 45 ∧ s2 0 45 ≤ 9) ∧ ((stays2 = 1 ∧ 0 < s2 18 0 + s2 18 1 + s2 18 2) ∨ (stays2 = 0 ∧ 0 < s2 19 0 + s2 19 1 + s2 19 2)))) → X 320 [xvr 0, xvi code, xvi kind, xvi stays2, u5_4] s2 := by
          intro stays2 s2 hv_320
          obtain ⟨hF, hG, hR, hv_320⟩ := hv_320
          have hs2 : s2 2 = σ 2 := hF.1 2 (by decide) (by decide)
          refine hX 400 320 _ _ ?_
          refine And.intro (fun c11 => ?_) (fun c11 => ?_)
          · have hF := hF.p (j := 46) (v := (-1)) (by decide)
            refine And.intro (fun c13 => ?_) (fun c13 => ?_)
            · refine s_codeOf (σ := (xput s2 0 46 (-1))) (turned := 0) (fun q hq => (show (0 ≤ s2 18 q ∧ s2 18 q ≤ 4) ∧ (0 ≤ s2 19 q ∧ s2 19 q ≤ 4) from hG.b hq)) (show (0 ≤ s2 0 42 ∧ s2 0 42 ≤ 4) ∧ (0 ≤ s2 0 43 ∧ s2 0 43 ≤ 1) from by have := hG.1; omega) (by omega) (fun r14 p14 => ?_)
              have p14 : ((0 ≤ r14 ∧ r14 < 156250) ∧ r14 / 2 % 5 = s2 0 42 ∧ r14 % 2 = s2 0 43 ∧ (dm r14 0 = s2 18 0 ∧ dm r14 1 = s2 18 1 ∧ dm r14 2 = s2 18 2) ∧ (dh r14 0 = s2 19 0 ∧ dh r14 1 = s2 19 1 ∧ dh r14 2 = s2 19 2)) := by
                rcases p14 with q | q
                · exact q.2
                · exact absurd q.1 (by decide)
              have hGD : GD (σ 2) r14 := ⟨p14.1, hG.eq (k3 p14.2.2.2.1.1 p14.2.2.2.1.2.1 p14.2.2.2.1.2.2) (k3 p14.2.2.2.2.1 p14.2.2.2.2.2.1 p14.2.2.2.2.2.2) p14.2.1, by omega⟩
              have hRD : rkc (σ 2) r14 < rkc (σ 2) code := by
                have z := ph_eq (f := σ 2) (m := s2 18) (h := s2 19) (m' := dm r14) (h' := dh r14) (k3 p14.2.2.2.1.1 p14.2.2.2.1.2.1 p14.2.2.2.1.2.2) (k3 p14.2.2.2.2.1 p14.2.2.2.2.2.1 p14.2.2.2.2.2.2) p14.2.1
                have e : rkc (σ 2) r14 = 3 * ph (σ 2) (dm r14) (dh r14) (r14 / 2 % 5) + 2 - r14 % 2 := rfl
                rw [e, z]; omega
              have hF := hF.p (j := 44) (v := r14) (by decide)
              refine And.intro rfl (And.intro rfl ?_)
              exact hQ _ hF ⟨Or.inr ⟨hGD, hRD⟩, (show -9 ≤ s2 0 45 ∧ s2 0 45 ≤ 9 from by omega), (show (-1) = 1 ∨ (-1) = -1 from by omega)⟩
            · refine s_codeOf (σ := (xput s2 0 46 (-1))) (turned := 1) (fun q hq => (show (0 ≤ s2 18 q ∧ s2 18 q ≤ 4) ∧ (0 ≤ s2 19 q ∧ s2 19 q ≤ 4) from hG.b hq)) (show (0 ≤ s2 0 42 ∧ s2 0 42 ≤ 4) ∧ (0 ≤ s2 0 43 ∧ s2 0 43 ≤ 1) from by have := hG.1; omega) (by omega) (fun r16 p16 => ?_)
              have p16 : ((0 ≤ r16 ∧ r16 < 156250) ∧ r16 / 2 % 5 = s2 0 42 ∧ r16 % 2 = s2 0 43 ∧ (dm r16 0 = s2 19 0 ∧ dm r16 1 = s2 19 1 ∧ dm r16 2 = s2 19 2) ∧ (dh r16 0 = s2 18 0 ∧ dh r16 1 = s2 18 1 ∧ dh r16 2 = s2 18 2)) := by
                rcases p16 with q | q
                · exact absurd q.1 (by decide)
                · exact q.2
              have hGD : GD (σ 2) r16 := ⟨p16.1, hG.sw.eq (k3 p16.2.2.2.1.1 p16.2.2.2.1.2.1 p16.2.2.2.1.2.2) (k3 p16.2.2.2.2.1 p16.2.2.2.2.2.1 p16.2.2.2.2.2.2) p16.2.1, by omega⟩
              have hRD : rkc (σ 2) r16 < rkc (σ 2) code := by
                have z := ph_eq (f := σ 2) (m := s2 19) (h := s2 18) (m' := dm r16) (h' := dh r16) (k3 p16.2.2.2.1.1 p16.2.2.2.1.2.1 p16.2.2.2.1.2.2) (k3 p16.2.2.2.2.1 p16.2.2.2.2.2.1 p16.2.2.2.2.2.2) p16.2.1
                rw [ph_sw (m := s2 18)] at z
                have e : rkc (σ 2) r16 = 3 * ph (σ 2) (dm r16) (dh r16) (r16 / 2 % 5) + 2 - r16 % 2 := rfl
                rw [e, z]; omega
              have hF := hF.p (j := 44) (v := r16) (by decide)
              refine And.intro rfl (And.intro rfl ?_)
              exact hQ _ hF ⟨Or.inr ⟨hGD, hRD⟩, (show -9 ≤ s2 0 45 ∧ s2 0 45 ≤ 9 from by omega), (show (-1) = 1 ∨ (-1) = -1 from by omega)⟩
          · have hF := hF.p (j := 46) (v := 1) (by decide)
            refine And.intro (fun c19 => ?_) (fun c19 => ?_)
            · refine s_codeOf (σ := (xput s2 0 46 1)) (turned := 0) (fun q hq => (show (0 ≤ s2 18 q ∧ s2 18 q ≤ 4) ∧ (0 ≤ s2 19 q ∧ s2 19 q ≤ 4) from hG.b hq)) (show (0 ≤ s2 0 42 ∧ s2 0 42 ≤ 4) ∧ (0 ≤ s2 0 43 ∧ s2 0 43 ≤ 1) from by have := hG.1; omega) (by omega) (fun r20 p20 => ?_)
              have p20 : ((0 ≤ r20 ∧ r20 < 156250) ∧ r20 / 2 % 5 = s2 0 42 ∧ r20 % 2 = s2 0 43 ∧ (dm r20 0 = s2 18 0 ∧ dm r20 1 = s2 18 1 ∧ dm r20 2 = s2 18 2) ∧ (dh r20 0 = s2 19 0 ∧ dh r20 1 = s2 19 1 ∧ dh r20 2 = s2 19 2)) := by
                rcases p20 with q | q
                · exact q.2
                · exact absurd q.1 (by decide)
              have hGD : GD (σ 2) r20 := ⟨p20.1, hG.eq (k3 p20.2.2.2.1.1 p20.2.2.2.1.2.1 p20.2.2.2.1.2.2) (k3 p20.2.2.2.2.1 p20.2.2.2.2.2.1 p20.2.2.2.2.2.2) p20.2.1, by omega⟩
              have hRD : rkc (σ 2) r20 < rkc (σ 2) code := by
                have z := ph_eq (f := σ 2) (m := s2 18) (h := s2 19) (m' := dm r20) (h' := dh r20) (k3 p20.2.2.2.1.1 p20.2.2.2.1.2.1 p20.2.2.2.1.2.2) (k3 p20.2.2.2.2.1 p20.2.2.2.2.2.1 p20.2.2.2.2.2.2) p20.2.1
                have e : rkc (σ 2) r20 = 3 * ph (σ 2) (dm r20) (dh r20) (r20 / 2 % 5) + 2 - r20 % 2 := rfl
                rw [e, z]; omega
              have hF := hF.p (j := 44) (v := r20) (by decide)
              refine And.intro rfl (And.intro rfl ?_)
              exact hQ _ hF ⟨Or.inr ⟨hGD, hRD⟩, (show -9 ≤ s2 0 45 ∧ s2 0 45 ≤ 9 from by omega), (show 1 = 1 ∨ 1 = -1 from by omega)⟩
            · refine s_codeOf (σ := (xput s2 0 46 1)) (turned := 1) (fun q hq => (show (0 ≤ s2 18 q ∧ s2 18 q ≤ 4) ∧ (0 ≤ s2 19 q ∧ s2 19 q ≤ 4) from hG.b hq)) (show (0 ≤ s2 0 42 ∧ s2 0 42 ≤ 4) ∧ (0 ≤ s2 0 43 ∧ s2 0 43 ≤ 1) from by have := hG.1; omega) (by omega) (fun r22 p22 => ?_)
              have p22 : ((0 ≤ r22 ∧ r22 < 156250) ∧ r22 / 2 % 5 = s2 0 42 ∧ r22 % 2 = s2 0 43 ∧ (dm r22 0 = s2 19 0 ∧ dm r22 1 = s2 19 1 ∧ dm r22 2 = s2 19 2) ∧ (dh r22 0 = s2 18 0 ∧ dh r22 1 = s2 18 1 ∧ dh r22 2 = s2 18 2)) := by
                rcases p22 with q | q
                · exact absurd q.1 (by decide)
                · exact q.2
              have hGD : GD (σ 2) r22 := ⟨p22.1, hG.sw.eq (k3 p22.2.2.2.1.1 p22.2.2.2.1.2.1 p22.2.2.2.1.2.2) (k3 p22.2.2.2.2.1 p22.2.2.2.2.2.1 p22.2.2.2.2.2.2) p22.2.1, by omega⟩
              have hRD : rkc (σ 2) r22 < rkc (σ 2) code := by
                have z := ph_eq (f := σ 2) (m := s2 19) (h := s2 18) (m' := dm r22) (h' := dh r22) (k3 p22.2.2.2.1.1 p22.2.2.2.1.2.1 p22.2.2.2.1.2.2) (k3 p22.2.2.2.2.1 p22.2.2.2.2.2.1 p22.2.2.2.2.2.2) p22.2.1
                rw [ph_sw (m := s2 18)] at z
                have e : rkc (σ 2) r22 = 3 * ph (σ 2) (dm r22) (dh r22) (r22 / 2 % 5) + 2 - r22 % 2 := rfl
                rw [e, z]; omega
              have hF := hF.p (j := 44) (v := r22) (by decide)
              refine And.intro rfl (And.intro rfl ?_)
              exact hQ _ hF ⟨Or.inr ⟨hGD, hRD⟩, (show -9 ≤ s2 0 45 ∧ s2 0 45 ≤ 9 from by omega), (show 1 = 1 ∨ 1 = -1 from by omega)⟩
        refine And.intro (fun c24 => ?_) (fun c24 => ?_)
        · intro v25 e25 l25 h25
          have e25 : v25 = s1 0 45 := e25
          refine s_filled19 (σ := (xput (xput s1 0 44 (-1)) 0 46 1)) (by show OPx (s1 2); rw [hs2]; exact hp0) (by show GB (s1 2) (s1 19) (s1 18) (s1 0 42); rw [hs2]; exact hG.sw) (fun r26 σ26 f26 p26 => ?_)
          have hF := hF.tr f26 (by decide) (by decide)
          have p26 : GB (s1 2) (σ26 19) (s1 18) (σ26 0 42) ∧ ph (s1 2) (σ26 19) (s1 18) (σ26 0 42) ≤ ph (s1 2) (s1 19) (s1 18) (s1 0 42) ∧ (s1 0 42 ≤ σ26 0 42 ∧ 0 ≤ r26 ∧ r26 ≤ 4) := p26
          rw [hs2] at p26
          have kO26 : σ26 18 = s1 18 := f26.1 18 (by decide) (by decide)
          have k43_26 : σ26 0 43 = s1 0 43 := f26.2 43 (by decide)
          have k45_26 : σ26 0 45 = s1 0 45 := f26.2 45 (by decide)
          have k44_26 : σ26 0 44 = (-1) := f26.2 44 (by decide)
          have k46_26 : σ26 0 46 = 1 := f26.2 46 (by decide)
          have hR : 3 * ph (σ 2) (σ26 18) (σ26 19) (σ26 0 42) + 2 - σ26 0 43 < rkc (σ 2) code := by have z := p26.2.1; rw [ph_sw, ph_sw (m := s1 18)] at z; rw [kO26]; omega
          have hG : GB (σ 2) (σ26 18) (σ26 19) (σ26 0 42) := by rw [kO26]; exact p26.1.sw
          have hs2 : σ26 2 = σ 2 := hF.1 2 (by decide) (by decide)
          have p26 := p26.2.2
          intro z27 t27 e27 l27 h27
          try have w27 : t27 = 0 := by omega
          have hF := hF.p (j := 45) (v := z27) (by decide)
          refine s_sum19 (σ := (xput σ26 0 45 z27)) (fun q hq => (show 0 ≤ σ26 19 q ∧ σ26 19 q ≤ 4 from (hG.b hq).2)) (fun r29 p29 => ?_)
          have p29 : r29 = σ26 19 0 + σ26 19 1 + σ26 19 2 := p29
          have g0 := hG.b (k := 0) (by omega); have g1 := hG.b (k := 1) (by omega); have g2 := hG.b (k := 2) (by omega)
          refine And.intro (fun c30 => ?_) (fun c30 => ?_)
          · exact lp_320 stays (xput σ26 0 45 z27) ⟨hF, hG, (show 3 * ph (σ 2) (σ26 18) (σ26 19) (σ26 0 42) + 2 - σ26 0 43 < rkc (σ 2) code from by omega), (show (0 ≤ σ26 0 43 ∧ σ26 0 43 ≤ 1) ∧ (-9 ≤ z27 ∧ z27 ≤ 9) ∧ ((stays = 1 ∧ 0 < σ26 18 0 + σ26 18 1 + σ26 18 2) ∨ (stays = 0 ∧ 0 < σ26 19 0 + σ26 19 1 + σ26 19 2)) from by omega)⟩
          · intro v31 e31 l31 h31
            have e31 : v31 = z27 := e31
            refine s_filled18 (σ := (xput σ26 0 45 z27)) (by show OPx (σ26 2); rw [hs2]; exact hp0) (by show GB (σ26 2) (σ26 18) (σ26 19) (σ26 0 42); rw [hs2]; exact hG) (fun r32 σ32 f32 p32 => ?_)
            have hF := hF.tr f32 (by decide) (by decide)
            have p32 : GB (σ26 2) (σ32 18) (σ26 19) (σ32 0 42) ∧ ph (σ26 2) (σ32 18) (σ26 19) (σ32 0 42) ≤ ph (σ26 2) (σ26 18) (σ26 19) (σ26 0 42) ∧ (σ26 0 42 ≤ σ32 0 42 ∧ 0 ≤ r32 ∧ r32 ≤ 4) := p32
            rw [hs2] at p32
            have kO32 : σ32 19 = σ26 19 := f32.1 19 (by decide) (by decide)
            have k43_32 : σ32 0 43 = σ26 0 43 := f32.2 43 (by decide)
            have k45_32 : σ32 0 45 = z27 := f32.2 45 (by decide)
            have k44_32 : σ32 0 44 = σ26 0 44 := f32.2 44 (by decide)
            have k46_32 : σ32 0 46 = σ26 0 46 := f32.2 46 (by decide)
            have hR : 3 * ph (σ 2) (σ32 18) (σ32 19) (σ32 0 42) + 2 - σ32 0 43 < rkc (σ 2) code := by have z := p32.2.1; rw [kO32]; omega
            have hG : GB (σ 2) (σ32 18) (σ32 19) (σ32 0 42) := by rw [kO32]; exact p32.1
            have hs2 : σ32 2 = σ 2 := hF.1 2 (by decide) (by decide)
            have p32 := p32.2.2
            intro z33 t33 e33 l33 h33
            try have w33 : t33 = 0 := by omega
            have hF := hF.p (j := 45) (v := z33) (by decide)
            refine And.intro (Nat.le_of_ble_eq_true rfl) ?_
            show xw _ _ _ _ _ _ _ _ _ _ [xvr 0, xvi code, xvi kind, xvi 1, u5_4] _ _
            refine s_sum18 (σ := (xput σ32 0 45 z33)) (fun q hq => (show 0 ≤ σ32 18 q ∧ σ32 18 q ≤ 4 from (hG.b hq).1)) (fun r35 p35 => ?_)
            have p35 : r35 = σ32 18 0 + σ32 18 1 + σ32 18 2 := p35
            have g0 := hG.b (k := 0) (by omega); have g1 := hG.b (k := 1) (by omega); have g2 := hG.b (k := 2) (by omega)
            refine And.intro (fun c36 => ?_) (fun c36 => ?_)
            · exact lp_320 1 (xput σ32 0 45 z33) ⟨hF, hG, (show 3 * ph (σ 2) (σ32 18) (σ32 19) (σ32 0 42) + 2 - σ32 0 43 < rkc (σ 2) code from by omega), (show (0 ≤ σ32 0 43 ∧ σ32 0 43 ≤ 1) ∧ (-9 ≤ z33 ∧ z33 ≤ 9) ∧ ((1 = 1 ∧ 0 < σ32 18 0 + σ32 18 1 + σ32 18 2) ∨ (1 = 0 ∧ 0 < σ32 19 0 + σ32 19 1 + σ32 19 2)) from by omega)⟩
            · refine And.intro rfl (And.intro rfl ?_)
              exact hQ _ hF ⟨Or.inl (show σ32 0 44 = -1 from by omega), (show -9 ≤ z33 ∧ z33 ≤ 9 from by omega), (show σ32 0 46 = 1 ∨ σ32 0 46 = -1 from by omega)⟩
        · intro v37 e37 l37 h37
          have e37 : v37 = s1 0 45 := e37
          refine s_filled18 (σ := (xput (xput s1 0 44 (-1)) 0 46 1)) (by show OPx (s1 2); rw [hs2]; exact hp0) (by show GB (s1 2) (s1 18) (s1 19) (s1 0 42); rw [hs2]; exact hG) (fun r38 σ38 f38 p38 => ?_)
          have hF := hF.tr f38 (by decide) (by decide)
          have p38 : GB (s1 2) (σ38 18) (s1 19) (σ38 0 42) ∧ ph (s1 2) (σ38 18) (s1 19) (σ38 0 42) ≤ ph (s1 2) (s1 18) (s1 19) (s1 0 42) ∧ (s1 0 42 ≤ σ38 0 42 ∧ 0 ≤ r38 ∧ r38 ≤ 4) := p38
          rw [hs2] at p38
          have kO38 : σ38 19 = s1 19 := f38.1 19 (by decide) (by decide)
          have k43_38 : σ38 0 43 = s1 0 43 := f38.2 43 (by decide)
          have k45_38 : σ38 0 45 = s1 0 45 := f38.2 45 (by decide)
          have k44_38 : σ38 0 44 = (-1) := f38.2 44 (by decide)
          have k46_38 : σ38 0 46 = 1 := f38.2 46 (by decide)
          have hR : 3 * ph (σ 2) (σ38 18) (σ38 19) (σ38 0 42) + 2 - σ38 0 43 < rkc (σ 2) code := by have z := p38.2.1; rw [kO38]; omega
          have hG : GB (σ 2) (σ38 18) (σ38 19) (σ38 0 42) := by rw [kO38]; exact p38.1
          have hs2 : σ38 2 = σ 2 := hF.1 2 (by decide) (by decide)
          have p38 := p38.2.2
          intro z39 t39 e39 l39 h39
          try have w39 : t39 = 0 := by omega
          have hF := hF.p (j := 45) (v := z39) (by decide)
          refine s_sum18 (σ := (xput σ38 0 45 z39)) (fun q hq => (show 0 ≤ σ38 18 q ∧ σ38 18 q ≤ 4 from (hG.b hq).1)) (fun r41 p41 => ?_)
          have p41 : r41 = σ38 18 0 + σ38 18 1 + σ38 18 2 := p41
          have g0 := hG.b (k := 0) (by omega); have g1 := hG.b (k := 1) (by omega); have g2 := hG.b (k := 2) (by omega)
          refine And.intro (fun c42 => ?_) (fun c42 => ?_)
          · exact lp_320 stays (xput σ38 0 45 z39) ⟨hF, hG, (show 3 * ph (σ 2) (σ38 18) (σ38 19) (σ38 0 42) + 2 - σ38 0 43 < rkc (σ 2) code from by omega), (show (0 ≤ σ38 0 43 ∧ σ38 0 43 ≤ 1) ∧ (-9 ≤ z39 ∧ z39 ≤ 9) ∧ ((stays = 1 ∧ 0 < σ38 18 0 + σ38 18 1 + σ38 18 2) ∨ (stays = 0 ∧ 0 < σ38 19 0 + σ38 19 1 + σ38 19 2)) from by omega)⟩
          · intro v43 e43 l43 h43
            have e43 : v43 = z39 := e43
            refine s_filled19 (σ := (xput σ38 0 45 z39)) (by show OPx (σ38 2); rw [hs2]; exact hp0) (by show GB (σ38 2) (σ38 19) (σ38 18) (σ38 0 42); rw [hs2]; exact hG.sw) (fun r44 σ44 f44 p44 => ?_)
            have hF := hF.tr f44 (by decide) (by decide)
            have p44 : GB (σ38 2) (σ44 19) (σ38 18) (σ44 0 42) ∧ ph (σ38 2) (σ44 19) (σ38 18) (σ44 0 42) ≤ ph (σ38 2) (σ38 19) (σ38 18) (σ38 0 42) ∧ (σ38 0 42 ≤ σ44 0 42 ∧ 0 ≤ r44 ∧ r44 ≤ 4) := p44
            rw [hs2] at p44
            have kO44 : σ44 18 = σ38 18 := f44.1 18 (by decide) (by decide)
            have k43_44 : σ44 0 43 = σ38 0 43 := f44.2 43 (by decide)
            have k45_44 : σ44 0 45 = z39 := f44.2 45 (by decide)
            have k44_44 : σ44 0 44 = σ38 0 44 := f44.2 44 (by decide)
            have k46_44 : σ44 0 46 = σ38 0 46 := f44.2 46 (by decide)
            have hR : 3 * ph (σ 2) (σ44 18) (σ44 19) (σ44 0 42) + 2 - σ44 0 43 < rkc (σ 2) code := by have z := p44.2.1; rw [ph_sw, ph_sw (m := σ38 18)] at z; rw [kO44]; omega
            have hG : GB (σ 2) (σ44 18) (σ44 19) (σ44 0 42) := by rw [kO44]; exact p44.1.sw
            have hs2 : σ44 2 = σ 2 := hF.1 2 (by decide) (by decide)
            have p44 := p44.2.2
            intro z45 t45 e45 l45 h45
            try have w45 : t45 = 0 := by omega
            have hF := hF.p (j := 45) (v := z45) (by decide)
            refine And.intro (Nat.le_of_ble_eq_true rfl) ?_
            show xw _ _ _ _ _ _ _ _ _ _ [xvr 0, xvi code, xvi kind, xvi 0, u5_4] _ _
            refine s_sum19 (σ := (xput σ44 0 45 z45)) (fun q hq => (show 0 ≤ σ44 19 q ∧ σ44 19 q ≤ 4 from (hG.b hq).2)) (fun r47 p47 => ?_)
            have p47 : r47 = σ44 19 0 + σ44 19 1 + σ44 19 2 := p47
            have g0 := hG.b (k := 0) (by omega); have g1 := hG.b (k := 1) (by omega); have g2 := hG.b (k := 2) (by omega)
            refine And.intro (fun c48 => ?_) (fun c48 => ?_)
            · exact lp_320 0 (xput σ44 0 45 z45) ⟨hF, hG, (show 3 * ph (σ 2) (σ44 18) (σ44 19) (σ44 0 42) + 2 - σ44 0 43 < rkc (σ 2) code from by omega), (show (0 ≤ σ44 0 43 ∧ σ44 0 43 ≤ 1) ∧ (-9 ≤ z45 ∧ z45 ≤ 9) ∧ ((0 = 1 ∧ 0 < σ44 18 0 + σ44 18 1 + σ44 18 2) ∨ (0 = 0 ∧ 0 < σ44 19 0 + σ44 19 1 + σ44 19 2)) from by omega)⟩
            · refine And.intro rfl (And.intro rfl ?_)
              exact hQ _ hF ⟨Or.inl (show σ44 0 44 = -1 from by omega), (show -9 ≤ z45 ∧ z45 ≤ 9 from by omega), (show σ44 0 46 = 1 ∨ σ44 0 46 = -1 from by omega)⟩
      · refine And.intro rfl (And.intro rfl ?_)
        exact hQ _ hF ⟨Or.inl (show (-1) = -1 from by omega), (show -9 ≤ s1 0 45 ∧ s1 0 45 ≤ 9 from by omega), (show 1 = 1 ∨ 1 = -1 from by omega)⟩
    refine And.intro (fun _ => ?_) (fun c49 => absurd (by decide) c49)
    intro v50 e50 l50 h50
    have e50 : v50 = σ1 0 42 := e50
    refine And.intro (rfl) (And.intro (⟨by omega, by omega⟩) ?_)
    intro v51 e51 l51 h51
    have e51 : v51 = σ1 2 7 := e51
    refine And.intro (fun c52 => ?_) (fun c52 => ?_)
    · intro v53 e53 l53 h53
      have e53 : v53 = σ1 0 43 := e53
      intro z54 t54 e54 l54 h54
      try have w54 : t54 = 0 := by omega
      have hF := hF.p (j := 43) (v := z54) (by decide)
      exact lp_183 0 (xvu) (xput (xput σ1 0 45 0) 0 43 z54) ⟨hF, hG, (show 3 * ph (σ 2) (σ1 18) (σ1 19) (σ1 0 42) + 2 - z54 < rkc (σ 2) code from by unfold rkc; omega), (show (0 ≤ z54 ∧ z54 ≤ 2) ∧ (0 ≤ 0 ∧ 0 ≤ 1) ∧ (0 = 0 ∨ 0 = 1) from by omega)⟩
    · intro v56 e56 l56 h56
      have e56 : v56 = σ1 0 42 := e56
      intro z57 t57 e57 l57 h57
      try have w57 : t57 = 0 := by omega
      refine And.intro (rfl) (And.intro (⟨by omega, by omega⟩) ?_)
      intro v58 e58 l58 h58
      have e58 : v58 = σ1 2 z57.toNat := e58
      have hcv58 := hp0.c (z := z57) (by omega) (by omega)
      have hev58 : v58 = σ 2 z57.toNat := by rw [e58, hs2]
      rw [← hev58] at hcv58
      refine And.intro (Nat.le_of_ble_eq_true rfl) ?_
      show xw _ _ _ _ _ _ _ _ _ _ [xvr 0, xvi code, xvi kind, xvi 0, xvi v58] _ _
      intro v59 e59 l59 h59
      have e59 : v59 = σ1 0 42 := e59
      intro z60 t60 e60 l60 h60
      try have w60 : t60 = 0 := by omega
      have hF := hF.p (j := 42) (v := z60) (by decide)
      have hF := hF.p (j := 43) (v := 0) (by decide)
      have lp_139 : ∀ (_ : Unit), (True) → X 139 [xvr 0, xvi code, xvi kind, xvi 0, xvi v58] (xput (xput (xput σ1 0 45 0) 0 42 z60) 0 43 0) := by
        intro _ hv_139
        refine hX 400 139 _ _ ?_
        refine And.intro (Nat.le_of_ble_eq_true rfl) ?_
        show xw _ _ _ _ _ _ _ _ _ _ [xvr 0, xvi code, xvi kind, xvi 0, xvi v58] _ _
        refine And.intro (rfl) (And.intro (⟨by omega, by omega⟩) ?_)
        intro v64 e64 l64 h64
        have e64 : v64 = σ1 18 v58.toNat := e64
        have hrowv64 := (hG.b (k := v58.toNat) (by omega)).1
        rw [← e64] at hrowv64
        intro z65 t65 e65 l65 h65
        try have w65 : t65 = 0 := by omega
        refine And.intro (rfl) (And.intro (⟨by omega, by omega⟩) ?_)
        have hF := hF.pt (t := 18) (j := v58.toNat) (v := z65) (by decide) (by decide)
        intro v67 e67 l67 h67
        have e67 : v67 = 0 := e67
        have hD := hG.draw (m' := (xput (xput (xput (xput σ1 0 45 0) 0 42 z60) 0 43 0) 18 v58.toNat z65) 18) (c := v58) (by omega) (by omega) (by rw [show (8 + σ1 0 42).toNat = z57.toNat from by omega, ← hs2]; exact e58.symm) (by omega) (by show xput _ 18 v58.toNat z65 18 v58.toNat = _; rw [xput_s]; omega) (fun q hq => xput_o hq)
        have e9 : (xput (xput (xput (xput σ1 0 45 0) 0 42 z60) 0 43 0) 18 v58.toNat z65) 0 42 = σ1 0 42 + 1 := (show z60 = _ from by omega)
        rw [← e9] at hD
        have hD1 : GB (σ 2) ((xput (xput (xput (xput σ1 0 45 0) 0 42 z60) 0 43 0) 18 v58.toNat z65) 18) ((xput (xput (xput (xput σ1 0 45 0) 0 42 z60) 0 43 0) 18 v58.toNat z65) 19) ((xput (xput (xput (xput σ1 0 45 0) 0 42 z60) 0 43 0) 18 v58.toNat z65) 0 42) := hD.1
        have hD2 := hD.2.1
        refine s_laid18 (σ := (xput (xput (xput (xput σ1 0 45 0) 0 42 z60) 0 43 0) 18 v58.toNat z65)) (k := v58) (by omega) (fun r68 σ68 f68 p68 => ?_)
        have hF := hF.tr f68 (by decide) (by decide)
        have k42_68 : σ68 0 42 = z60 := f68.2 42 (by decide)
        have k43_68 : σ68 0 43 = 0 := f68.2 43 (by decide)
        have k45_68 : σ68 0 45 = 0 := f68.2 45 (by decide)
        have k19_68 : σ68 19 = (xput (xput (xput (xput σ1 0 45 0) 0 42 z60) 0 43 0) 18 v58.toNat z65) 19 := f68.1 19 (by decide) (by decide)
        have hX2 : (GB (σ 2) (σ68 18) (σ68 19) (σ68 0 42) ∧ ph (σ 2) (σ68 18) (σ68 19) (σ68 0 42) ≤ ph (σ 2) ((xput (xput (xput (xput σ1 0 45 0) 0 42 z60) 0 43 0) 18 v58.toNat z65) 18) ((xput (xput (xput (xput σ1 0 45 0) 0 42 z60) 0 43 0) 18 v58.toNat z65) 19) ((xput (xput (xput (xput σ1 0 45 0) 0 42 z60) 0 43 0) 18 v58.toNat z65) 0 42)) ∧ (0 ≤ r68 ∧ r68 ≤ 1) := by
          have e42 : σ68 0 42 = (xput (xput (xput (xput σ1 0 45 0) 0 42 z60) 0 43 0) 18 v58.toNat z65) 0 42 := f68.2 42 (by decide)
          rw [k19_68, e42]
          rcases p68 with q | q
          · rw [q.2.2]; exact ⟨⟨hD1, Int.le_refl _⟩, by omega⟩
          · have hY := hD1.lay (m' := σ68 18) (c := v58) (by omega) (by rw [q.2.2, up_s]) (fun j hj => by rw [q.2.2, up_n hj])
            exact ⟨hY, by omega⟩
        intro z69 t69 e69 l69 h69
        try have w69 : t69 = 0 := by omega
        have hF := hF.p (j := 45) (v := z69) (by decide)
        exact lp_183 0 (xvi v58) (xput σ68 0 45 z69) ⟨hF, hX2.1.1, (show 3 * ph (σ 2) (σ68 18) (σ68 19) (σ68 0 42) + 2 - σ68 0 43 < rkc (σ 2) code from by have z := hX2.1.2; have z2 : ph (σ 2) ((xput (xput (xput (xput σ1 0 45 0) 0 42 z60) 0 43 0) 18 v58.toNat z65) 18) ((xput (xput (xput (xput σ1 0 45 0) 0 42 z60) 0 43 0) 18 v58.toNat z65) 19) ((xput (xput (xput (xput σ1 0 45 0) 0 42 z60) 0 43 0) 18 v58.toNat z65) 0 42) ≤ ph (σ 2) (σ1 18) (σ1 19) (σ1 0 42) - 1 := hD2; unfold rkc; omega), (show (0 ≤ σ68 0 43 ∧ σ68 0 43 ≤ 2) ∧ (0 ≤ z69 ∧ z69 ≤ 1) ∧ (0 = 0 ∨ 0 = 1) from by omega)⟩
      refine And.intro (rfl) (And.intro (⟨by omega, by omega⟩) ?_)
      intro v71 e71 l71 h71
      have e71 : v71 = σ1 2 2 := e71
      refine And.intro (fun c72 => ?_) (fun c72 => ?_)
      · exact lp_139 () (show True from by first | trivial | omega | (refine ⟨by assumption, ?_⟩; omega) | (refine ⟨?_, ?_⟩ <;> omega))
      · refine And.intro (fun c73 => ?_) (fun c73 => ?_)
        · exact lp_139 () (show True from by first | trivial | omega | (refine ⟨by assumption, ?_⟩; omega) | (refine ⟨?_, ?_⟩ <;> omega))
        · refine And.intro (Nat.le_of_ble_eq_true rfl) ?_
          show xw _ _ _ _ _ _ _ _ _ _ [xvr 0, xvi code, xvi kind, xvi 1, xvi v58] _ _
          refine And.intro (rfl) (And.intro (⟨by omega, by omega⟩) ?_)
          intro v74 e74 l74 h74
          have e74 : v74 = σ1 18 v58.toNat := e74
          have hrowv74 := (hG.b (k := v58.toNat) (by omega)).1
          rw [← e74] at hrowv74
          intro z75 t75 e75 l75 h75
          try have w75 : t75 = 0 := by omega
          refine And.intro (rfl) (And.intro (⟨by omega, by omega⟩) ?_)
          have hF := hF.pt (t := 18) (j := v58.toNat) (v := z75) (by decide) (by decide)
          intro v77 e77 l77 h77
          have e77 : v77 = 0 := e77
          have hD := hG.draw (m' := (xput (xput (xput (xput σ1 0 45 0) 0 42 z60) 0 43 0) 18 v58.toNat z75) 18) (c := v58) (by omega) (by omega) (by rw [show (8 + σ1 0 42).toNat = z57.toNat from by omega, ← hs2]; exact e58.symm) (by omega) (by show xput _ 18 v58.toNat z75 18 v58.toNat = _; rw [xput_s]; omega) (fun q hq => xput_o hq)
          have e9 : (xput (xput (xput (xput σ1 0 45 0) 0 42 z60) 0 43 0) 18 v58.toNat z75) 0 42 = σ1 0 42 + 1 := (show z60 = _ from by omega)
          rw [← e9] at hD
          have hD1 : GB (σ 2) ((xput (xput (xput (xput σ1 0 45 0) 0 42 z60) 0 43 0) 18 v58.toNat z75) 18) ((xput (xput (xput (xput σ1 0 45 0) 0 42 z60) 0 43 0) 18 v58.toNat z75) 19) ((xput (xput (xput (xput σ1 0 45 0) 0 42 z60) 0 43 0) 18 v58.toNat z75) 0 42) := hD.1
          have hD2 := hD.2.1
          refine s_laid18 (σ := (xput (xput (xput (xput σ1 0 45 0) 0 42 z60) 0 43 0) 18 v58.toNat z75)) (k := v58) (by omega) (fun r78 σ78 f78 p78 => ?_)
          have hF := hF.tr f78 (by decide) (by decide)
          have k42_78 : σ78 0 42 = z60 := f78.2 42 (by decide)
          have k43_78 : σ78 0 43 = 0 := f78.2 43 (by decide)
          have k45_78 : σ78 0 45 = 0 := f78.2 45 (by decide)
          have k19_78 : σ78 19 = (xput (xput (xput (xput σ1 0 45 0) 0 42 z60) 0 43 0) 18 v58.toNat z75) 19 := f78.1 19 (by decide) (by decide)
          have hX2 : (GB (σ 2) (σ78 18) (σ78 19) (σ78 0 42) ∧ ph (σ 2) (σ78 18) (σ78 19) (σ78 0 42) ≤ ph (σ 2) ((xput (xput (xput (xput σ1 0 45 0) 0 42 z60) 0 43 0) 18 v58.toNat z75) 18) ((xput (xput (xput (xput σ1 0 45 0) 0 42 z60) 0 43 0) 18 v58.toNat z75) 19) ((xput (xput (xput (xput σ1 0 45 0) 0 42 z60) 0 43 0) 18 v58.toNat z75) 0 42)) ∧ (0 ≤ r78 ∧ r78 ≤ 1) := by
            have e42 : σ78 0 42 = (xput (xput (xput (xput σ1 0 45 0) 0 42 z60) 0 43 0) 18 v58.toNat z75) 0 42 := f78.2 42 (by decide)
            rw [k19_78, e42]
            rcases p78 with q | q
            · rw [q.2.2]; exact ⟨⟨hD1, Int.le_refl _⟩, by omega⟩
            · have hY := hD1.lay (m' := σ78 18) (c := v58) (by omega) (by rw [q.2.2, up_s]) (fun j hj => by rw [q.2.2, up_n hj])
              exact ⟨hY, by omega⟩
          intro z79 t79 e79 l79 h79
          try have w79 : t79 = 0 := by omega
          have hF := hF.p (j := 45) (v := z79) (by decide)
          exact lp_183 1 (xvi v58) (xput σ78 0 45 z79) ⟨hF, hX2.1.1, (show 3 * ph (σ 2) (σ78 18) (σ78 19) (σ78 0 42) + 2 - σ78 0 43 < rkc (σ 2) code from by have z := hX2.1.2; have z2 : ph (σ 2) ((xput (xput (xput (xput σ1 0 45 0) 0 42 z60) 0 43 0) 18 v58.toNat z75) 18) ((xput (xput (xput (xput σ1 0 45 0) 0 42 z60) 0 43 0) 18 v58.toNat z75) 19) ((xput (xput (xput (xput σ1 0 45 0) 0 42 z60) 0 43 0) 18 v58.toNat z75) 0 42) ≤ ph (σ 2) (σ1 18) (σ1 19) (σ1 0 42) - 1 := hD2; unfold rkc; omega), (show (0 ≤ σ78 0 43 ∧ σ78 0 43 ≤ 2) ∧ (0 ≤ z79 ∧ z79 ≤ 1) ∧ (1 = 0 ∨ 1 = 1) from by omega)⟩
  · refine And.intro (Nat.le_of_ble_eq_true rfl) ?_
    show xw _ _ _ _ _ _ _ _ _ _ [xvr 0, xvi code, xvi kind, xvi 1, xvu] _ _
    have lp_183 : ∀ (stays : Int) (u81_4 : xV) (s1 : xS), (Fr [18, 19] [42, 43, 44, 45, 46] σ s1 ∧ GB (σ 2) (s1 18) (s1 19) (s1 0 42) ∧ 3 * ph (σ 2) (s1 18) (s1 19) (s1 0 42) + 2 - s1 0 43 < rkc (σ 2) code ∧ ((0 ≤ s1 0 43 ∧ s1 0 43 ≤ 2) ∧ (0 ≤ s1 0 45 ∧ s1 0 45 ≤ 1) ∧ (stays = 0 ∨ stays = 1))) → X 183 [xvr 0, xvi code, xvi kind, xvi stays, u81_4] s1 := by
      intro stays u81_4 s1 hv_183
      obtain ⟨hF, hG, hR, hv_183⟩ := hv_183
      have hs2 : s1 2 = σ 2 := hF.1 2 (by decide) (by decide)
      refine hX 400 183 _ _ ?_
      have hF := hF.p (j := 44) (v := (-1)) (by decide)
      have hF := hF.p (j := 46) (v := 1) (by decide)
      intro v84 e84 l84 h84
      have e84 : v84 = s1 0 43 := e84
      refine And.intro (fun c85 => ?_) (fun c85 => ?_)
      · have lp_320 : ∀ (stays2 : Int) (s2 : xS), (Fr [18, 19] [42, 43, 44, 45, 46] σ s2 ∧ GB (σ 2) (s2 18) (s2 19) (s2 0 42) ∧ 3 * ph (σ 2) (s2 18) (s2 19) (s2 0 42) + 2 - s2 0 43 < rkc (σ 2) code ∧ ((0 ≤ s2 0 43 ∧ s2 0 43 ≤ 1) ∧ (-9 ≤ s2 0 45 ∧ s2 0 45 ≤ 9) ∧ ((stays2 = 1 ∧ 0 < s2 18 0 + s2 18 1 + s2 18 2) ∨ (stays2 = 0 ∧ 0 < s2 19 0 + s2 19 1 + s2 19 2)))) → X 320 [xvr 0, xvi code, xvi kind, xvi stays2, u81_4] s2 := by
          intro stays2 s2 hv_320
          obtain ⟨hF, hG, hR, hv_320⟩ := hv_320
          have hs2 : s2 2 = σ 2 := hF.1 2 (by decide) (by decide)
          refine hX 400 320 _ _ ?_
          refine And.intro (fun c87 => ?_) (fun c87 => ?_)
          · have hF := hF.p (j := 46) (v := (-1)) (by decide)
            refine And.intro (fun c89 => ?_) (fun c89 => ?_)
            · refine s_codeOf (σ := (xput s2 0 46 (-1))) (turned := 0) (fun q hq => (show (0 ≤ s2 18 q ∧ s2 18 q ≤ 4) ∧ (0 ≤ s2 19 q ∧ s2 19 q ≤ 4) from hG.b hq)) (show (0 ≤ s2 0 42 ∧ s2 0 42 ≤ 4) ∧ (0 ≤ s2 0 43 ∧ s2 0 43 ≤ 1) from by have := hG.1; omega) (by omega) (fun r90 p90 => ?_)
              have p90 : ((0 ≤ r90 ∧ r90 < 156250) ∧ r90 / 2 % 5 = s2 0 42 ∧ r90 % 2 = s2 0 43 ∧ (dm r90 0 = s2 18 0 ∧ dm r90 1 = s2 18 1 ∧ dm r90 2 = s2 18 2) ∧ (dh r90 0 = s2 19 0 ∧ dh r90 1 = s2 19 1 ∧ dh r90 2 = s2 19 2)) := by
                rcases p90 with q | q
                · exact q.2
                · exact absurd q.1 (by decide)
              have hGD : GD (σ 2) r90 := ⟨p90.1, hG.eq (k3 p90.2.2.2.1.1 p90.2.2.2.1.2.1 p90.2.2.2.1.2.2) (k3 p90.2.2.2.2.1 p90.2.2.2.2.2.1 p90.2.2.2.2.2.2) p90.2.1, by omega⟩
              have hRD : rkc (σ 2) r90 < rkc (σ 2) code := by
                have z := ph_eq (f := σ 2) (m := s2 18) (h := s2 19) (m' := dm r90) (h' := dh r90) (k3 p90.2.2.2.1.1 p90.2.2.2.1.2.1 p90.2.2.2.1.2.2) (k3 p90.2.2.2.2.1 p90.2.2.2.2.2.1 p90.2.2.2.2.2.2) p90.2.1
                have e : rkc (σ 2) r90 = 3 * ph (σ 2) (dm r90) (dh r90) (r90 / 2 % 5) + 2 - r90 % 2 := rfl
                rw [e, z]; omega
              have hF := hF.p (j := 44) (v := r90) (by decide)
              refine And.intro rfl (And.intro rfl ?_)
              exact hQ _ hF ⟨Or.inr ⟨hGD, hRD⟩, (show -9 ≤ s2 0 45 ∧ s2 0 45 ≤ 9 from by omega), (show (-1) = 1 ∨ (-1) = -1 from by omega)⟩
            · refine s_codeOf (σ := (xput s2 0 46 (-1))) (turned := 1) (fun q hq => (show (0 ≤ s2 18 q ∧ s2 18 q ≤ 4) ∧ (0 ≤ s2 19 q ∧ s2 19 q ≤ 4) from hG.b hq)) (show (0 ≤ s2 0 42 ∧ s2 0 42 ≤ 4) ∧ (0 ≤ s2 0 43 ∧ s2 0 43 ≤ 1) from by have := hG.1; omega) (by omega) (fun r92 p92 => ?_)
              have p92 : ((0 ≤ r92 ∧ r92 < 156250) ∧ r92 / 2 % 5 = s2 0 42 ∧ r92 % 2 = s2 0 43 ∧ (dm r92 0 = s2 19 0 ∧ dm r92 1 = s2 19 1 ∧ dm r92 2 = s2 19 2) ∧ (dh r92 0 = s2 18 0 ∧ dh r92 1 = s2 18 1 ∧ dh r92 2 = s2 18 2)) := by
                rcases p92 with q | q
                · exact absurd q.1 (by decide)
                · exact q.2
              have hGD : GD (σ 2) r92 := ⟨p92.1, hG.sw.eq (k3 p92.2.2.2.1.1 p92.2.2.2.1.2.1 p92.2.2.2.1.2.2) (k3 p92.2.2.2.2.1 p92.2.2.2.2.2.1 p92.2.2.2.2.2.2) p92.2.1, by omega⟩
              have hRD : rkc (σ 2) r92 < rkc (σ 2) code := by
                have z := ph_eq (f := σ 2) (m := s2 19) (h := s2 18) (m' := dm r92) (h' := dh r92) (k3 p92.2.2.2.1.1 p92.2.2.2.1.2.1 p92.2.2.2.1.2.2) (k3 p92.2.2.2.2.1 p92.2.2.2.2.2.1 p92.2.2.2.2.2.2) p92.2.1
                rw [ph_sw (m := s2 18)] at z
                have e : rkc (σ 2) r92 = 3 * ph (σ 2) (dm r92) (dh r92) (r92 / 2 % 5) + 2 - r92 % 2 := rfl
                rw [e, z]; omega
              have hF := hF.p (j := 44) (v := r92) (by decide)
              refine And.intro rfl (And.intro rfl ?_)
              exact hQ _ hF ⟨Or.inr ⟨hGD, hRD⟩, (show -9 ≤ s2 0 45 ∧ s2 0 45 ≤ 9 from by omega), (show (-1) = 1 ∨ (-1) = -1 from by omega)⟩
          · have hF := hF.p (j := 46) (v := 1) (by decide)
            refine And.intro (fun c95 => ?_) (fun c95 => ?_)
            · refine s_codeOf (σ := (xput s2 0 46 1)) (turned := 0) (fun q hq => (show (0 ≤ s2 18 q ∧ s2 18 q ≤ 4) ∧ (0 ≤ s2 19 q ∧ s2 19 q ≤ 4) from hG.b hq)) (show (0 ≤ s2 0 42 ∧ s2 0 42 ≤ 4) ∧ (0 ≤ s2 0 43 ∧ s2 0 43 ≤ 1) from by have := hG.1; omega) (by omega) (fun r96 p96 => ?_)
              have p96 : ((0 ≤ r96 ∧ r96 < 156250) ∧ r96 / 2 % 5 = s2 0 42 ∧ r96 % 2 = s2 0 43 ∧ (dm r96 0 = s2 18 0 ∧ dm r96 1 = s2 18 1 ∧ dm r96 2 = s2 18 2) ∧ (dh r96 0 = s2 19 0 ∧ dh r96 1 = s2 19 1 ∧ dh r96 2 = s2 19 2)) := by
                rcases p96 with q | q
                · exact q.2
                · exact absurd q.1 (by decide)
              have hGD : GD (σ 2) r96 := ⟨p96.1, hG.eq (k3 p96.2.2.2.1.1 p96.2.2.2.1.2.1 p96.2.2.2.1.2.2) (k3 p96.2.2.2.2.1 p96.2.2.2.2.2.1 p96.2.2.2.2.2.2) p96.2.1, by omega⟩
              have hRD : rkc (σ 2) r96 < rkc (σ 2) code := by
                have z := ph_eq (f := σ 2) (m := s2 18) (h := s2 19) (m' := dm r96) (h' := dh r96) (k3 p96.2.2.2.1.1 p96.2.2.2.1.2.1 p96.2.2.2.1.2.2) (k3 p96.2.2.2.2.1 p96.2.2.2.2.2.1 p96.2.2.2.2.2.2) p96.2.1
                have e : rkc (σ 2) r96 = 3 * ph (σ 2) (dm r96) (dh r96) (r96 / 2 % 5) + 2 - r96 % 2 := rfl
                rw [e, z]; omega
              have hF := hF.p (j := 44) (v := r96) (by decide)
              refine And.intro rfl (And.intro rfl ?_)
              exact hQ _ hF ⟨Or.inr ⟨hGD, hRD⟩, (show -9 ≤ s2 0 45 ∧ s2 0 45 ≤ 9 from by omega), (show 1 = 1 ∨ 1 = -1 from by omega)⟩
            · refine s_codeOf (σ := (xput s2 0 46 1)) (turned := 1) (fun q hq => (show (0 ≤ s2 18 q ∧ s2 18 q ≤ 4) ∧ (0 ≤ s2 19 q ∧ s2 19 q ≤ 4) from hG.b hq)) (show (0 ≤ s2 0 42 ∧ s2 0 42 ≤ 4) ∧ (0 ≤ s2 0 43 ∧ s2 0 43 ≤ 1) from by have := hG.1; omega) (by omega) (fun r98 p98 => ?_)
              have p98 : ((0 ≤ r98 ∧ r98 < 156250) ∧ r98 / 2 % 5 = s2 0 42 ∧ r98 % 2 = s2 0 43 ∧ (dm r98 0 = s2 19 0 ∧ dm r98 1 = s2 19 1 ∧ dm r98 2 = s2 19 2) ∧ (dh r98 0 = s2 18 0 ∧ dh r98 1 = s2 18 1 ∧ dh r98 2 = s2 18 2)) := by
                rcases p98 with q | q
                · exact absurd q.1 (by decide)
                · exact q.2
              have hGD : GD (σ 2) r98 := ⟨p98.1, hG.sw.eq (k3 p98.2.2.2.1.1 p98.2.2.2.1.2.1 p98.2.2.2.1.2.2) (k3 p98.2.2.2.2.1 p98.2.2.2.2.2.1 p98.2.2.2.2.2.2) p98.2.1, by omega⟩
              have hRD : rkc (σ 2) r98 < rkc (σ 2) code := by
                have z := ph_eq (f := σ 2) (m := s2 19) (h := s2 18) (m' := dm r98) (h' := dh r98) (k3 p98.2.2.2.1.1 p98.2.2.2.1.2.1 p98.2.2.2.1.2.2) (k3 p98.2.2.2.2.1 p98.2.2.2.2.2.1 p98.2.2.2.2.2.2) p98.2.1
                rw [ph_sw (m := s2 18)] at z
                have e : rkc (σ 2) r98 = 3 * ph (σ 2) (dm r98) (dh r98) (r98 / 2 % 5) + 2 - r98 % 2 := rfl
                rw [e, z]; omega
              have hF := hF.p (j := 44) (v := r98) (by decide)
              refine And.intro rfl (And.intro rfl ?_)
              exact hQ _ hF ⟨Or.inr ⟨hGD, hRD⟩, (show -9 ≤ s2 0 45 ∧ s2 0 45 ≤ 9 from by omega), (show 1 = 1 ∨ 1 = -1 from by omega)⟩
        refine And.intro (fun c100 => ?_) (fun c100 => ?_)
        · intro v101 e101 l101 h101
          have e101 : v101 = s1 0 45 := e101
          refine s_filled19 (σ := (xput (xput s1 0 44 (-1)) 0 46 1)) (by show OPx (s1 2); rw [hs2]; exact hp0) (by show GB (s1 2) (s1 19) (s1 18) (s1 0 42); rw [hs2]; exact hG.sw) (fun r102 σ102 f102 p102 => ?_)
          have hF := hF.tr f102 (by decide) (by decide)
          have p102 : GB (s1 2) (σ102 19) (s1 18) (σ102 0 42) ∧ ph (s1 2) (σ102 19) (s1 18) (σ102 0 42) ≤ ph (s1 2) (s1 19) (s1 18) (s1 0 42) ∧ (s1 0 42 ≤ σ102 0 42 ∧ 0 ≤ r102 ∧ r102 ≤ 4) := p102
          rw [hs2] at p102
          have kO102 : σ102 18 = s1 18 := f102.1 18 (by decide) (by decide)
          have k43_102 : σ102 0 43 = s1 0 43 := f102.2 43 (by decide)
          have k45_102 : σ102 0 45 = s1 0 45 := f102.2 45 (by decide)
          have k44_102 : σ102 0 44 = (-1) := f102.2 44 (by decide)
          have k46_102 : σ102 0 46 = 1 := f102.2 46 (by decide)
          have hR : 3 * ph (σ 2) (σ102 18) (σ102 19) (σ102 0 42) + 2 - σ102 0 43 < rkc (σ 2) code := by have z := p102.2.1; rw [ph_sw, ph_sw (m := s1 18)] at z; rw [kO102]; omega
          have hG : GB (σ 2) (σ102 18) (σ102 19) (σ102 0 42) := by rw [kO102]; exact p102.1.sw
          have hs2 : σ102 2 = σ 2 := hF.1 2 (by decide) (by decide)
          have p102 := p102.2.2
          intro z103 t103 e103 l103 h103
          try have w103 : t103 = 0 := by omega
          have hF := hF.p (j := 45) (v := z103) (by decide)
          refine s_sum19 (σ := (xput σ102 0 45 z103)) (fun q hq => (show 0 ≤ σ102 19 q ∧ σ102 19 q ≤ 4 from (hG.b hq).2)) (fun r105 p105 => ?_)
          have p105 : r105 = σ102 19 0 + σ102 19 1 + σ102 19 2 := p105
          have g0 := hG.b (k := 0) (by omega); have g1 := hG.b (k := 1) (by omega); have g2 := hG.b (k := 2) (by omega)
          refine And.intro (fun c106 => ?_) (fun c106 => ?_)
          · exact lp_320 stays (xput σ102 0 45 z103) ⟨hF, hG, (show 3 * ph (σ 2) (σ102 18) (σ102 19) (σ102 0 42) + 2 - σ102 0 43 < rkc (σ 2) code from by omega), (show (0 ≤ σ102 0 43 ∧ σ102 0 43 ≤ 1) ∧ (-9 ≤ z103 ∧ z103 ≤ 9) ∧ ((stays = 1 ∧ 0 < σ102 18 0 + σ102 18 1 + σ102 18 2) ∨ (stays = 0 ∧ 0 < σ102 19 0 + σ102 19 1 + σ102 19 2)) from by omega)⟩
          · intro v107 e107 l107 h107
            have e107 : v107 = z103 := e107
            refine s_filled18 (σ := (xput σ102 0 45 z103)) (by show OPx (σ102 2); rw [hs2]; exact hp0) (by show GB (σ102 2) (σ102 18) (σ102 19) (σ102 0 42); rw [hs2]; exact hG) (fun r108 σ108 f108 p108 => ?_)
            have hF := hF.tr f108 (by decide) (by decide)
            have p108 : GB (σ102 2) (σ108 18) (σ102 19) (σ108 0 42) ∧ ph (σ102 2) (σ108 18) (σ102 19) (σ108 0 42) ≤ ph (σ102 2) (σ102 18) (σ102 19) (σ102 0 42) ∧ (σ102 0 42 ≤ σ108 0 42 ∧ 0 ≤ r108 ∧ r108 ≤ 4) := p108
            rw [hs2] at p108
            have kO108 : σ108 19 = σ102 19 := f108.1 19 (by decide) (by decide)
            have k43_108 : σ108 0 43 = σ102 0 43 := f108.2 43 (by decide)
            have k45_108 : σ108 0 45 = z103 := f108.2 45 (by decide)
            have k44_108 : σ108 0 44 = σ102 0 44 := f108.2 44 (by decide)
            have k46_108 : σ108 0 46 = σ102 0 46 := f108.2 46 (by decide)
            have hR : 3 * ph (σ 2) (σ108 18) (σ108 19) (σ108 0 42) + 2 - σ108 0 43 < rkc (σ 2) code := by have z := p108.2.1; rw [kO108]; omega
            have hG : GB (σ 2) (σ108 18) (σ108 19) (σ108 0 42) := by rw [kO108]; exact p108.1
            have hs2 : σ108 2 = σ 2 := hF.1 2 (by decide) (by decide)
            have p108 := p108.2.2
            intro z109 t109 e109 l109 h109
            try have w109 : t109 = 0 := by omega
            have hF := hF.p (j := 45) (v := z109) (by decide)
            refine And.intro (Nat.le_of_ble_eq_true rfl) ?_
            show xw _ _ _ _ _ _ _ _ _ _ [xvr 0, xvi code, xvi kind, xvi 1, u81_4] _ _
            refine s_sum18 (σ := (xput σ108 0 45 z109)) (fun q hq => (show 0 ≤ σ108 18 q ∧ σ108 18 q ≤ 4 from (hG.b hq).1)) (fun r111 p111 => ?_)
            have p111 : r111 = σ108 18 0 + σ108 18 1 + σ108 18 2 := p111
            have g0 := hG.b (k := 0) (by omega); have g1 := hG.b (k := 1) (by omega); have g2 := hG.b (k := 2) (by omega)
            refine And.intro (fun c112 => ?_) (fun c112 => ?_)
            · exact lp_320 1 (xput σ108 0 45 z109) ⟨hF, hG, (show 3 * ph (σ 2) (σ108 18) (σ108 19) (σ108 0 42) + 2 - σ108 0 43 < rkc (σ 2) code from by omega), (show (0 ≤ σ108 0 43 ∧ σ108 0 43 ≤ 1) ∧ (-9 ≤ z109 ∧ z109 ≤ 9) ∧ ((1 = 1 ∧ 0 < σ108 18 0 + σ108 18 1 + σ108 18 2) ∨ (1 = 0 ∧ 0 < σ108 19 0 + σ108 19 1 + σ108 19 2)) from by omega)⟩
            · refine And.intro rfl (And.intro rfl ?_)
              exact hQ _ hF ⟨Or.inl (show σ108 0 44 = -1 from by omega), (show -9 ≤ z109 ∧ z109 ≤ 9 from by omega), (show σ108 0 46 = 1 ∨ σ108 0 46 = -1 from by omega)⟩
        · intro v113 e113 l113 h113
          have e113 : v113 = s1 0 45 := e113
          refine s_filled18 (σ := (xput (xput s1 0 44 (-1)) 0 46 1)) (by show OPx (s1 2); rw [hs2]; exact hp0) (by show GB (s1 2) (s1 18) (s1 19) (s1 0 42); rw [hs2]; exact hG) (fun r114 σ114 f114 p114 => ?_)
          have hF := hF.tr f114 (by decide) (by decide)
          have p114 : GB (s1 2) (σ114 18) (s1 19) (σ114 0 42) ∧ ph (s1 2) (σ114 18) (s1 19) (σ114 0 42) ≤ ph (s1 2) (s1 18) (s1 19) (s1 0 42) ∧ (s1 0 42 ≤ σ114 0 42 ∧ 0 ≤ r114 ∧ r114 ≤ 4) := p114
          rw [hs2] at p114
          have kO114 : σ114 19 = s1 19 := f114.1 19 (by decide) (by decide)
          have k43_114 : σ114 0 43 = s1 0 43 := f114.2 43 (by decide)
          have k45_114 : σ114 0 45 = s1 0 45 := f114.2 45 (by decide)
          have k44_114 : σ114 0 44 = (-1) := f114.2 44 (by decide)
          have k46_114 : σ114 0 46 = 1 := f114.2 46 (by decide)
          have hR : 3 * ph (σ 2) (σ114 18) (σ114 19) (σ114 0 42) + 2 - σ114 0 43 < rkc (σ 2) code := by have z := p114.2.1; rw [kO114]; omega
          have hG : GB (σ 2) (σ114 18) (σ114 19) (σ114 0 42) := by rw [kO114]; exact p114.1
          have hs2 : σ114 2 = σ 2 := hF.1 2 (by decide) (by decide)
          have p114 := p114.2.2
          intro z115 t115 e115 l115 h115
          try have w115 : t115 = 0 := by omega
          have hF := hF.p (j := 45) (v := z115) (by decide)
          refine s_sum18 (σ := (xput σ114 0 45 z115)) (fun q hq => (show 0 ≤ σ114 18 q ∧ σ114 18 q ≤ 4 from (hG.b hq).1)) (fun r117 p117 => ?_)
          have p117 : r117 = σ114 18 0 + σ114 18 1 + σ114 18 2 := p117
          have g0 := hG.b (k := 0) (by omega); have g1 := hG.b (k := 1) (by omega); have g2 := hG.b (k := 2) (by omega)
          refine And.intro (fun c118 => ?_) (fun c118 => ?_)
          · exact lp_320 stays (xput σ114 0 45 z115) ⟨hF, hG, (show 3 * ph (σ 2) (σ114 18) (σ114 19) (σ114 0 42) + 2 - σ114 0 43 < rkc (σ 2) code from by omega), (show (0 ≤ σ114 0 43 ∧ σ114 0 43 ≤ 1) ∧ (-9 ≤ z115 ∧ z115 ≤ 9) ∧ ((stays = 1 ∧ 0 < σ114 18 0 + σ114 18 1 + σ114 18 2) ∨ (stays = 0 ∧ 0 < σ114 19 0 + σ114 19 1 + σ114 19 2)) from by omega)⟩
          · intro v119 e119 l119 h119
            have e119 : v119 = z115 := e119
            refine s_filled19 (σ := (xput σ114 0 45 z115)) (by show OPx (σ114 2); rw [hs2]; exact hp0) (by show GB (σ114 2) (σ114 19) (σ114 18) (σ114 0 42); rw [hs2]; exact hG.sw) (fun r120 σ120 f120 p120 => ?_)
            have hF := hF.tr f120 (by decide) (by decide)
            have p120 : GB (σ114 2) (σ120 19) (σ114 18) (σ120 0 42) ∧ ph (σ114 2) (σ120 19) (σ114 18) (σ120 0 42) ≤ ph (σ114 2) (σ114 19) (σ114 18) (σ114 0 42) ∧ (σ114 0 42 ≤ σ120 0 42 ∧ 0 ≤ r120 ∧ r120 ≤ 4) := p120
            rw [hs2] at p120
            have kO120 : σ120 18 = σ114 18 := f120.1 18 (by decide) (by decide)
            have k43_120 : σ120 0 43 = σ114 0 43 := f120.2 43 (by decide)
            have k45_120 : σ120 0 45 = z115 := f120.2 45 (by decide)
            have k44_120 : σ120 0 44 = σ114 0 44 := f120.2 44 (by decide)
            have k46_120 : σ120 0 46 = σ114 0 46 := f120.2 46 (by decide)
            have hR : 3 * ph (σ 2) (σ120 18) (σ120 19) (σ120 0 42) + 2 - σ120 0 43 < rkc (σ 2) code := by have z := p120.2.1; rw [ph_sw, ph_sw (m := σ114 18)] at z; rw [kO120]; omega
            have hG : GB (σ 2) (σ120 18) (σ120 19) (σ120 0 42) := by rw [kO120]; exact p120.1.sw
            have hs2 : σ120 2 = σ 2 := hF.1 2 (by decide) (by decide)
            have p120 := p120.2.2
            intro z121 t121 e121 l121 h121
            try have w121 : t121 = 0 := by omega
            have hF := hF.p (j := 45) (v := z121) (by decide)
            refine And.intro (Nat.le_of_ble_eq_true rfl) ?_
            show xw _ _ _ _ _ _ _ _ _ _ [xvr 0, xvi code, xvi kind, xvi 0, u81_4] _ _
            refine s_sum19 (σ := (xput σ120 0 45 z121)) (fun q hq => (show 0 ≤ σ120 19 q ∧ σ120 19 q ≤ 4 from (hG.b hq).2)) (fun r123 p123 => ?_)
            have p123 : r123 = σ120 19 0 + σ120 19 1 + σ120 19 2 := p123
            have g0 := hG.b (k := 0) (by omega); have g1 := hG.b (k := 1) (by omega); have g2 := hG.b (k := 2) (by omega)
            refine And.intro (fun c124 => ?_) (fun c124 => ?_)
            · exact lp_320 0 (xput σ120 0 45 z121) ⟨hF, hG, (show 3 * ph (σ 2) (σ120 18) (σ120 19) (σ120 0 42) + 2 - σ120 0 43 < rkc (σ 2) code from by omega), (show (0 ≤ σ120 0 43 ∧ σ120 0 43 ≤ 1) ∧ (-9 ≤ z121 ∧ z121 ≤ 9) ∧ ((0 = 1 ∧ 0 < σ120 18 0 + σ120 18 1 + σ120 18 2) ∨ (0 = 0 ∧ 0 < σ120 19 0 + σ120 19 1 + σ120 19 2)) from by omega)⟩
            · refine And.intro rfl (And.intro rfl ?_)
              exact hQ _ hF ⟨Or.inl (show σ120 0 44 = -1 from by omega), (show -9 ≤ z121 ∧ z121 ≤ 9 from by omega), (show σ120 0 46 = 1 ∨ σ120 0 46 = -1 from by omega)⟩
      · refine And.intro rfl (And.intro rfl ?_)
        exact hQ _ hF ⟨Or.inl (show (-1) = -1 from by omega), (show -9 ≤ s1 0 45 ∧ s1 0 45 ≤ 9 from by omega), (show 1 = 1 ∨ 1 = -1 from by omega)⟩
    refine And.intro (fun c125 => absurd c125 (by decide)) (fun _ => ?_)
    refine And.intro (rfl) (And.intro (⟨by omega, by omega⟩) ?_)
    intro v126 e126 l126 h126
    have e126 : v126 = σ1 18 kind.toNat := e126
    refine And.intro (rfl) (And.intro (⟨by omega, by omega⟩) ?_)
    intro v127 e127 l127 h127
    have e127 : v127 = σ1 19 kind.toNat := e127
    intro z128 t128 e128 l128 h128
    try have w128 : t128 = 0 := by omega
    refine And.intro (rfl) (And.intro (⟨by omega, by omega⟩) ?_)
    have hF := hF.pt (t := 18) (j := kind.toNat) (v := z128) (by decide) (by decide)
    refine And.intro (rfl) (And.intro (⟨by omega, by omega⟩) ?_)
    have hF := hF.pt (t := 19) (j := kind.toNat) (v := 0) (by decide) (by decide)
    have hF := hF.p (j := 43) (v := 0) (by decide)
    intro v132 e132 l132 h132
    have e132 : v132 = 0 := e132
    have hD := hG.give (m' := (xput (xput (xput (xput σ1 0 45 0) 18 kind.toNat z128) 19 kind.toNat 0) 0 43 0) 18) (h' := (xput (xput (xput (xput σ1 0 45 0) 18 kind.toNat z128) 19 kind.toNat 0) 0 43 0) 19) (c := kind) (by omega) (by omega) (by omega) (by show xput _ 18 kind.toNat z128 18 kind.toNat = _; rw [xput_s]; omega) (by show xput _ 19 kind.toNat 0 19 kind.toNat = _; rw [xput_s]) (fun q hq => by show xput _ 18 kind.toNat _ 18 q = _; exact xput_o hq) (fun q hq => by show xput _ 19 kind.toNat 0 19 q = _; exact xput_o hq)
    have hD1 : GB (σ 2) ((xput (xput (xput (xput σ1 0 45 0) 18 kind.toNat z128) 19 kind.toNat 0) 0 43 0) 18) ((xput (xput (xput (xput σ1 0 45 0) 18 kind.toNat z128) 19 kind.toNat 0) 0 43 0) 19) ((xput (xput (xput (xput σ1 0 45 0) 18 kind.toNat z128) 19 kind.toNat 0) 0 43 0) 0 42) := hD.1
    have hD2 := hD.2
    refine s_laid18 (σ := (xput (xput (xput (xput σ1 0 45 0) 18 kind.toNat z128) 19 kind.toNat 0) 0 43 0)) (k := kind) (by omega) (fun r133 σ133 f133 p133 => ?_)
    have hF := hF.tr f133 (by decide) (by decide)
    have k42_133 : σ133 0 42 = σ1 0 42 := f133.2 42 (by decide)
    have k43_133 : σ133 0 43 = 0 := f133.2 43 (by decide)
    have k45_133 : σ133 0 45 = 0 := f133.2 45 (by decide)
    have k19_133 : σ133 19 = (xput (xput (xput (xput σ1 0 45 0) 18 kind.toNat z128) 19 kind.toNat 0) 0 43 0) 19 := f133.1 19 (by decide) (by decide)
    have hX2 : (GB (σ 2) (σ133 18) (σ133 19) (σ133 0 42) ∧ ph (σ 2) (σ133 18) (σ133 19) (σ133 0 42) ≤ ph (σ 2) ((xput (xput (xput (xput σ1 0 45 0) 18 kind.toNat z128) 19 kind.toNat 0) 0 43 0) 18) ((xput (xput (xput (xput σ1 0 45 0) 18 kind.toNat z128) 19 kind.toNat 0) 0 43 0) 19) ((xput (xput (xput (xput σ1 0 45 0) 18 kind.toNat z128) 19 kind.toNat 0) 0 43 0) 0 42)) ∧ (0 ≤ r133 ∧ r133 ≤ 1) := by
      have e42 : σ133 0 42 = (xput (xput (xput (xput σ1 0 45 0) 18 kind.toNat z128) 19 kind.toNat 0) 0 43 0) 0 42 := f133.2 42 (by decide)
      rw [k19_133, e42]
      rcases p133 with q | q
      · rw [q.2.2]; exact ⟨⟨hD1, Int.le_refl _⟩, by omega⟩
      · have hY := hD1.lay (m' := σ133 18) (c := kind) (by omega) (by rw [q.2.2, up_s]) (fun j hj => by rw [q.2.2, up_n hj])
        exact ⟨hY, by omega⟩
    intro z134 t134 e134 l134 h134
    try have w134 : t134 = 0 := by omega
    have hF := hF.p (j := 45) (v := z134) (by decide)
    exact lp_183 1 (xvu) (xput σ133 0 45 z134) ⟨hF, hX2.1.1, (show 3 * ph (σ 2) (σ133 18) (σ133 19) (σ133 0 42) + 2 - σ133 0 43 < rkc (σ 2) code from by have z := hX2.1.2; have z2 : ph (σ 2) ((xput (xput (xput (xput σ1 0 45 0) 18 kind.toNat z128) 19 kind.toNat 0) 0 43 0) 18) ((xput (xput (xput (xput σ1 0 45 0) 18 kind.toNat z128) 19 kind.toNat 0) 0 43 0) 19) ((xput (xput (xput (xput σ1 0 45 0) 18 kind.toNat z128) 19 kind.toNat 0) 0 43 0) 0 42) ≤ ph (σ 2) (σ1 18) (σ1 19) (σ1 0 42) - 1 := hD2; unfold rkc; omega), (show (0 ≤ σ133 0 43 ∧ σ133 0 43 ≤ 2) ∧ (0 ≤ z134 ∧ z134 ≤ 1) ∧ (1 = 0 ∨ 1 = 1) from by omega)⟩
