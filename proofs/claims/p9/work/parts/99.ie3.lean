set_option maxHeartbeats 4000000 in
set_option maxRecDepth 100000 in
theorem s_sweepF {σ : xS} {k : Int} {Q : Option xV → xS → Prop} (hp0 : RI σ) (hp1 : TV (σ 2)) (hQ : ∀ r : Int, ∀ σ' : xS, Fr [15] [0, 37] σ σ' → ((¬ (0 ≤ k ∧ k < σ 2 1) ∧ r = -1 ∧ σ' 0 37 = σ 0 37 ∧ σ' 15 = σ 15) ∨ ((0 ≤ k ∧ k < σ 2 1) ∧ r = σ' 0 37 ∧ SWR (σ' 15) (σ' 0 37) (swL (σ 2) k.toNat 13))) → Q (some (xvi r)) σ') : xT kX11_sweep [xvr 0, xvi k] σ Q := by
  refine ⟨Nat.le_of_ble_eq_true rfl, fun X hX => ?_⟩
  show X 0 [xvr 0, xvi k, xvu, xvu] σ
  have hF : Fr [15] [0, 37] σ σ := Fr.rf
  refine hX 400 0 _ _ ?_
  have hF := hF.p (j := 0) (v := 0) (by decide)
  have hI := (RK.rf hp0 |>.p0 (j := 0) (v := 0) (by decide) (by decide) (by decide)).1
  obtain ⟨hVx, hT2, hT6, hT4⟩ := id hp1
  have m0 := hVx.1.1.1
  have m1 := hVx.1.1.2.1
  have m7 := hVx.1.1.2.2.2
  have hV9 := hVx.1
  refine s_isPerson (σ := (xput σ 0 0 0)) (k := k) hI (fun r2 p2 => ?_)
  have p2 : (r2 = 1 ∧ 0 ≤ k ∧ k < σ 2 1) ∨ (r2 = 0 ∧ (k < 0 ∨ σ 2 1 ≤ k)) := p2
  refine And.intro (fun c3 => ?_) (fun c3 => ?_)
  · have hF := hF.p (j := 37) (v := 0) (by decide)
    refine And.intro (Nat.le_of_ble_eq_true rfl) ?_
    show xw _ _ _ _ _ _ _ _ _ _ [xvr 0, xvi k, xvi 0, xvu] _ _
    have lp_22 : ∀ (m22 : Nat) (kd : Int) (u5_3 : xV) (s1 : xS), ((13 - kd).toNat) = m22 → (Fr [15] [0, 37] σ s1 ∧ (0 ≤ kd ∧ kd ≤ 13) ∧ SWR (s1 15) (s1 0 37) (swL (σ 2) k.toNat kd.toNat)) → X 22 [xvr 0, xvi k, xvi kd, u5_3] s1 := by
      intro m22
      induction m22 using Nat.strongRecOn with
      | _ m22 ih_22 =>
      intro kd u5_3 s1 hm_22 hv_22
      obtain ⟨hF, hv_22, hS⟩ := hv_22
      have hs2 : s1 2 = σ 2 := hF.1 2 (by decide) (by decide)
      refine hX 400 22 _ _ ?_
      refine And.intro (fun c6 => ?_) (fun c6 => ?_)
      · intro v7 e7 l7 h7
        have e7 : v7 = s1 0 37 := e7
        refine And.intro rfl ?_
        exact hQ _ _ hF (Or.inr ⟨by omega, by omega, by rw [show (13 : Nat) = kd.toNat from by omega]; exact hS⟩)
      · refine And.intro (Nat.le_of_ble_eq_true rfl) ?_
        show xw _ _ _ _ _ _ _ _ _ _ [xvr 0, xvi k, xvi kd, xvi 0] _ _
        have lp_30 : ∀ (m30 : Nat) (q : Int) (s2 : xS), ((6 - q).toNat) = m30 → (Fr [15] [0, 37] σ s2 ∧ (0 ≤ q ∧ q ≤ σ 2 1) ∧ SWR (s2 15) (s2 0 37) (swL (σ 2) k.toNat kd.toNat ++ swQ (σ 2) k.toNat kd.toNat q.toNat)) → X 30 [xvr 0, xvi k, xvi kd, xvi q] s2 := by
          intro m30
          induction m30 using Nat.strongRecOn with
          | _ m30 ih_30 =>
          intro q s2 hm_30 hv_30
          obtain ⟨hF, hv_30, hS⟩ := hv_30
          have hs2 : s2 2 = σ 2 := hF.1 2 (by decide) (by decide)
          have hq1 := congrFun hs2 1
          have hl1 := swL_l (f := σ 2) (k := k.toNat) m1.2 (by omega) kd.toNat
          have hl2 := swQ_5 (f := σ 2) (k := k.toNat) (kd := kd.toNat) (q := q.toNat) (by omega) (by omega)
          have hl3 := hS.1
          rw [List.length_append] at hl3
          refine hX 400 30 _ _ ?_
          refine And.intro (rfl) (And.intro (⟨by omega, by omega⟩) ?_)
          intro v9 e9 l9 h9
          have e9 : v9 = s2 2 1 := e9
          refine And.intro (fun c10 => ?_) (fun c10 => ?_)
          · intro z11 t11 e11 l11 h11
            try have w11 : t11 = 0 := by omega
            show xw _ _ _ _ _ _ _ _ _ _ [xvr 0, xvi k, xvi z11, xvi q] _ _
            exact ih_22 _ (show (13 - z11).toNat < m22 from by omega) z11 (xvi q) s2 rfl ⟨hF, by omega, by rw [show z11.toNat = kd.toNat + 1 from by omega]; show SWR _ _ (_ ++ _); rw [show (σ 2 1).toNat = q.toNat from by omega]; exact hS⟩
          · have lp_93 : ∀ (s3 : xS), (Fr [15] [0, 37] σ s3 ∧ SWR (s3 15) (s3 0 37) (swL (σ 2) k.toNat kd.toNat ++ swQ (σ 2) k.toNat kd.toNat (q.toNat + 1))) → X 93 [xvr 0, xvi k, xvi kd, xvi q] s3 := by
              intro s3 hv_93
              refine hX 400 93 _ _ ?_
              intro z13 t13 e13 l13 h13
              try have w13 : t13 = 0 := by omega
              show xw _ _ _ _ _ _ _ _ _ _ [xvr 0, xvi k, xvi kd, xvi z13] _ _
              exact ih_30 _ (show (6 - z13).toNat < m30 from by omega) z13 s3 rfl ⟨hv_93.1, by omega, (by rw [show z13.toNat = q.toNat + 1 from by omega]; exact hv_93.2)⟩
            refine And.intro (fun c14 => ?_) (fun c14 => ?_)
            · exact lp_93 s2 ⟨hF, (by rw [show q.toNat + 1 = q.toNat + 1 from rfl]; show SWR _ _ (_ ++ (if _ then _ else _)); rw [if_neg (by omega)]; exact hS)⟩
            · have hl4 := swQ_4 (f := σ 2) (k := k.toNat) (kd := kd.toNat) (q := q.toNat) (by omega) (by omega) (by omega)
              refine s_hand0v (σ := s2) (k := k) (kind := kd) (by rw [hs2]; exact hV9) (by omega) (by omega) (fun r15 p15 => ?_)
              rw [hs2, show (60 + 13 * k + kd).toNat = 60 + 13 * k.toNat + kd.toNat from by omega] at p15
              have p15 : r15 = HH (σ 2) k.toNat kd.toNat := p15
              have hw15 := (HH_v hV9 (p := k.toNat) (k := kd.toNat) (by omega) (by omega)).1
              refine And.intro (fun c16 => ?_) (fun c16 => ?_)
              · exact lp_93 s2 ⟨hF, (by rw [show q.toNat + 1 = q.toNat + 1 from rfl]; show SWR _ _ (_ ++ (if _ then _ else _)); rw [if_neg (by omega)]; exact hS)⟩
              · refine s_hand0v (σ := s2) (k := q) (kind := kd) (by rw [hs2]; exact hV9) (by omega) (by omega) (fun r17 p17 => ?_)
                rw [hs2, show (60 + 13 * q + kd).toNat = 60 + 13 * q.toNat + kd.toNat from by omega] at p17
                have p17 : r17 = HH (σ 2) q.toNat kd.toNat := p17
                have hw17 := (HH_v hV9 (p := q.toNat) (k := kd.toNat) (by omega) (by omega)).1
                refine And.intro (fun c18 => ?_) (fun c18 => ?_)
                · intro v19 e19 l19 h19
                  have e19 : v19 = s2 0 37 := e19
                  intro z20 t20 e20 l20 h20
                  try have w20 : t20 = 0 := by omega
                  intro z21 t21 e21 l21 h21
                  try have w21 : t21 = 0 := by omega
                  refine And.intro (rfl) (And.intro (⟨by omega, by omega⟩) ?_)
                  have hF := hF.pt (t := 15) (j := v19.toNat) (v := z21) (by decide) (by decide)
                  intro v23 e23 l23 h23
                  have e23 : v23 = s2 0 37 := e23
                  intro z24 t24 e24 l24 h24
                  try have w24 : t24 = 0 := by omega
                  have hF := hF.p (j := 37) (v := z24) (by decide)
                  exact lp_93 (xput (xput s2 15 v19.toNat z21) 0 37 z24) ⟨hF, (by show SWR _ _ (_ ++ (if _ then _ else _)); rw [if_pos ⟨by omega, by omega, by omega⟩, ← List.append_assoc]; exact SWR.snoc hS (by show z24 = _; omega) (by omega) (by show xput s2 15 v19.toNat z21 15 _ = _; rw [show (s2 0 37).toNat = v19.toNat from by omega, xput_s]; omega) (fun i hi => by show xput s2 15 v19.toNat z21 15 i = _; rw [xput_o (by omega)]))⟩
                · exact lp_93 s2 ⟨hF, (by rw [show q.toNat + 1 = q.toNat + 1 from rfl]; show SWR _ _ (_ ++ (if _ then _ else _)); rw [if_neg (by omega)]; exact hS)⟩
        exact lp_30 _ 0 s1 rfl ⟨hF, by omega, (by show SWR _ _ (_ ++ []); rw [List.append_nil]; exact hS)⟩
    exact lp_22 _ 0 (xvu) (xput (xput σ 0 0 0) 0 37 0) rfl ⟨hF, by omega, SWR.nil (by show 0 = _; omega)⟩
  · refine And.intro rfl ?_
    exact hQ _ _ hF (Or.inl ⟨fun z => by omega, rfl, rfl, rfl⟩)

