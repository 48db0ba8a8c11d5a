theorem s_lineJ1 {σ : xS} {b : Nat → Int} {n m : Int} {s : TSx} {Q : Option xV → xS → Prop} (hn : n ≤ 940) (hy : BYx b n) (he : σ 1 = b ∧ σ 0 3 = n ∧ σ 0 5 = m) (hw : ∀ j : Nat, j < 19 → σ 6 j = R8.getD j 0) (hR : RTR σ b n m s)  (hQ : ∀ r : Int, ∀ σ' : xS, Fr [3, 5] [4, 11, 12, 13, 14, 15, 16, 17, 18, 20, 21, 22] σ σ' → ((LNR σ' b n m s r) ∧ (r = 1 → HZR (σ 3) → HZR (σ' 3))) → Q (some (xvi r)) σ') : xT kX11_line [xvr 0] σ Q := by
  refine jkX11_line _ _ (fun o ς => ∃ r : Int, o = some (xvi r) ∧ Fr [3, 5] [4, 11, 12, 13, 14, 15, 16, 17, 18, 20, 21, 22] σ ς ∧ (LNR ς b n m s r)) (fun o ς => ∃ r : Int, o = some (xvi r) ∧ Fr [3, 5] [4, 11, 12, 13, 14, 15, 16, 17, 18, 20, 21, 22] σ ς ∧ ((r = 1 → HZR (σ 3) → HZR (ς 3)))) _ (s_lineF hn hy he hw hR (fun r ς f p => ⟨r, rfl, f, p⟩)) (s_lineZ hn hy he hw hR (fun r ς f p => ⟨r, rfl, f, p⟩)) (fun o ς h1 h2 => ?_)
  obtain ⟨r, rfl, f0, p0⟩ := h1
  obtain ⟨r2, e2, f1, p1⟩ := h2
  have e3 : r = r2 := by cases e2; rfl
  subst e3
  exact hQ r ς f0 ⟨p0, p1⟩
theorem s_lineJ {σ : xS} {b : Nat → Int} {n m : Int} {s : TSx} {Q : Option xV → xS → Prop} (hn : n ≤ 940) (hy : BYx b n) (he : σ 1 = b ∧ σ 0 3 = n ∧ σ 0 5 = m) (hw : ∀ j : Nat, j < 19 → σ 6 j = R8.getD j 0) (hR : RTR σ b n m s) (hp0_ : 0 ≤ σ 0 4 ∧ σ 0 4 ≤ σ 0 3 ∧ σ 0 3 ≤ 940) (hp1_ : TH (σ 3) (σ 0 20)) (hQ : ∀ r : Int, ∀ σ' : xS, Fr [3, 5] [4, 11, 12, 13, 14, 15, 16, 17, 18, 20, 21, 22] σ σ' → (((LNR σ' b n m s r) ∧ (r = 1 → HZR (σ 3) → HZR (σ' 3))) ∧ (∀ q : Nat, q < 6 → σ' 5 q = σ 5 q)) → Q (some (xvi r)) σ') : xT kX11_line [xvr 0] σ Q := by
  refine jkX11_line _ _ (fun o ς => ∃ r : Int, o = some (xvi r) ∧ Fr [3, 5] [4, 11, 12, 13, 14, 15, 16, 17, 18, 20, 21, 22] σ ς ∧ (((LNR ς b n m s r) ∧ (r = 1 → HZR (σ 3) → HZR (ς 3))))) (fun o ς => ∃ r : Int, o = some (xvi r) ∧ Fr [3, 5] [4, 11, 12, 13, 14, 15, 16, 17, 18, 20, 21, 22] σ ς ∧ ((∀ q : Nat, q < 6 → ς 5 q = σ 5 q))) _ (s_lineJ1 hn hy he hw hR (fun r ς f p => ⟨r, rfl, f, p⟩)) (s_lineN hp0_ hp1_ (fun r ς f p => ⟨r, rfl, f, p⟩)) (fun o ς h1 h2 => ?_)
  obtain ⟨r, rfl, f0, p0⟩ := h1
  obtain ⟨r2, e2, f1, p1⟩ := h2
  have e3 : r = r2 := by cases e2; rfl
  subst e3
  exact hQ r ς f0 ⟨p0, p1⟩
set_option maxHeartbeats 4000000 in
set_option maxRecDepth 100000 in
theorem s_tableF2 {s : TSx} {σ : xS} {Q : Option xV → xS → Prop} (hp0 : RI σ) (hp1 : BYx (σ 1) (σ 0 2)) (hp2 : ∀ j : Nat, j < 19 → σ 6 j = R8.getD j 0) (hp3 : TS0 s) (hp4 : ∀ j : Nat, 765 ≤ j → σ 2 j = 0) (hQ : ∀ r : Int, ∀ σ' : xS, Fr [2, 3, 5] [0, 2, 3, 4, 5, 11, 12, 13, 14, 15, 16, 17, 18, 19, 20, 21, 22, 27] σ σ' → (TBR s σ σ' r) → Q (some (xvi r)) σ') : xT kX11_table [xvr 0] σ Q := by
  refine ⟨Nat.le_of_ble_eq_true rfl, fun X hX => ?_⟩
  show X 0 [xvr 0, xvu] σ
  have hF : Fr [2, 3, 5] [0, 2, 3, 4, 5, 11, 12, 13, 14, 15, 16, 17, 18, 19, 20, 21, 22, 27] σ σ := Fr.rf
  refine hX 400 0 _ _ ?_
  have hl := hp0.len
  have hF := hF.p (j := 0) (v := 0) (by decide)
  refine s_taken (σ := (xput σ 0 0 0)) (most := 900) (fun σ2 f2 p2 => ?_)
  have p2 : σ2 0 3 = (σ 0 2) ∧ σ2 0 2 = 0 ∧ σ2 0 4 = 0 ∧ σ2 0 5 = 900 := p2
  have hF := hF.tr f2 (by decide) (by decide)
  have hS2 : σ2 2 = σ 2 := f2.1 2 (by decide) (by decide)
  have hS27 : σ2 0 27 = σ 0 27 := f2.2 27 (by decide)
  have hS0 : σ2 0 2 = 0 := p2.2.1
  have hF := hF.p (j := 15) (v := 0) (by decide)
  have hF := hF.p (j := 19) (v := 0) (by decide)
  refine And.intro (by omega) ?_
  have hF := hF.p (j := 20) (v := 0) (by decide)
  refine And.intro (by omega) ?_
  have hF := hF.p (j := 21) (v := 0) (by decide)
  refine And.intro (by omega) ?_
  have hF := hF.p (j := 22) (v := 0) (by decide)
  refine And.intro (Nat.le_of_ble_eq_true rfl) ?_
  show xw _ _ _ _ _ _ _ _ _ _ [xvr 0, xvi 0] _ _
  have lp_39 : ∀ (m39 : Nat) (i : Int) (s1 : xS), ((584 - i).toNat) = m39 → (Fr [2, 3, 5] [0, 2, 3, 4, 5, 11, 12, 13, 14, 15, 16, 17, 18, 19, 20, 21, 22, 27] σ s1 ∧ s1 2 = σ 2 ∧ s1 0 27 = σ 0 27 ∧ s1 0 2 = 0 ∧ (∀ q : Nat, s1 5 q = σ 5 q) ∧ (∀ j : Nat, (j : Int) < i → s1 3 j = 0) ∧ (s1 0 4 = 0 ∧ s1 0 3 = σ 0 2 ∧ s1 0 5 = 900 ∧ s1 0 19 = 0 ∧ s1 0 20 = 0 ∧ s1 0 21 = 0 ∧ s1 0 22 = 0 ∧ 0 ≤ i ∧ i ≤ 584)) → X 39 [xvr 0, xvi i] s1 := by
    intro m39
    induction m39 using Nat.strongRecOn with
    | _ m39 ih_39 =>
    intro i s1 hm_39 hv_39
    obtain ⟨hF, hS2, hS27, hS0, hN1, hZ, hv_39⟩ := hv_39
    refine hX 400 39 _ _ ?_
    refine And.intro (fun c9 => ?_) (fun c9 => ?_)
    · have hT : TH (s1 3) (s1 0 20) := ⟨VS.zero (fun j hj => hZ j (by omega)), hZ 6 (by omega), fun _ => hZ 0 (by omega)⟩
      have e1 : s1 1 = σ 1 := hF.1 1 (by decide) (by decide)
      refine s_nxG (σ := s1) (b := σ 1) (n := σ 0 2) (m := 900) (p := 0) (show 0 ≤ s1 0 4 ∧ s1 0 4 ≤ σ 0 2 ∧ σ 0 2 ≤ 940 from by omega) hp1 e1 (by omega) (by omega) (by omega) (fun σ10 f10 p10 => ?_)
      have hF := hF.tr f10 (by decide) (by decide)
      have hS2 : σ10 2 = σ 2 := (f10.1 2 (by decide) (by decide)).trans hS2
      have hS27 : σ10 0 27 = σ 0 27 := (f10.2 27 (by decide)).trans hS27
      have hS0 : σ10 0 2 = 0 := (f10.2 2 (by decide)).trans hS0
      have g3 : σ10 0 3 = σ 0 2 := (f10.2 3 (by decide)).trans (show s1 0 3 = σ 0 2 from by omega)
      have g5 : σ10 0 5 = 900 := (f10.2 5 (by decide)).trans (show s1 0 5 = 900 from by omega)
      have k3 : σ10 3 = s1 3 := f10.1 3 (by decide) (by decide)
      have k19 : σ10 0 19 = 0 := (f10.2 19 (by decide)).trans (by omega)
      have k20 : σ10 0 20 = 0 := (f10.2 20 (by decide)).trans (by omega)
      have k21 : σ10 0 21 = 0 := (f10.2 21 (by decide)).trans (by omega)
      have k22 : σ10 0 22 = 0 := (f10.2 22 (by decide)).trans (by omega)
      have hRT : RTR σ10 (σ 1) (σ 0 2) 900 s := by
        obtain ⟨hd, hp, pl, z1, z2, rfl⟩ := hp3
        refine ⟨⟨p10.2, Int.le_refl 0, hp0.len.1, by rw [k3, k20]; exact ⟨hT.1, hT.2.1, fun _ => hZ 0 (by omega)⟩⟩, ⟨?_, ?_, ?_, ?_, k22, k21, ?_⟩, ⟨Or.inr ⟨k20, rfl⟩, Or.inl rfl, Or.inl rfl⟩, fun q hq => ?_, fun i hi => ?_, fun i hi => ?_, fun i hi => ?_⟩
        · rw [k3]; exact hZ 0 (by omega)
        · rw [k3]; exact hZ 1 (by omega)
        · rw [k3]; exact hZ 2 (by omega)
        · rw [k3]; exact hZ 3 (by omega)
        · rw [k3]; exact hZ 7 (by omega)
        · have hq : (q : Int) < 0 := hq
          omega
        · rw [k3, hZ (60 + i) (by omega)]; exact (z1 i hi).symm
        · have hi : (i : Int) < 0 := hi
          omega
        · rw [k3, hZ (571 + i) (by omega)]; exact (z2 i hi).symm
      have hp00 : s.p = 0 := by
        obtain ⟨hd, hp, pl, z1, z2, rfl⟩ := hp3
        rfl
      have hN0 : ∀ q : Nat, q < 6 → σ10 5 q = σ 5 q := fun q _ => (congrFun (f10.1 5 (by decide) (by decide)) q).trans (hN1 q)
      have hZq0 : HZR (σ10 3) := by rw [k3]; exact ⟨fun i hi => hZ i (by omega), fun i hi _ => hZ _ (by omega)⟩
      have lp_63 : ∀ (m63 : Nat) (s2 : xS), ((940 - s2 0 19).toNat) = m63 → (Fr [2, 3, 5] [0, 2, 3, 4, 5, 11, 12, 13, 14, 15, 16, 17, 18, 19, 20, 21, 22, 27] σ s2 ∧ s2 2 = σ 2 ∧ s2 0 27 = σ 0 27 ∧ s2 0 2 = 0 ∧ (s2 0 3 = σ 0 2 ∧ s2 0 5 = 900) ∧ ((∀ q : Nat, q < 6 → s2 5 q = σ 5 q) ∧ HZR (s2 3)) ∧ ∃ (i : Nat) (t : TSx), TRN (σ 1) (σ 0 2) 900 i s t ∧ RTR s2 (σ 1) (σ 0 2) 900 t ∧ s2 0 19 = (i : Int) ∧ 2 * (i : Int) ≤ t.p) → X 63 [xvr 0, xvi i] s2 := by
        intro m63
        induction m63 using Nat.strongRecOn with
        | _ m63 ih_63 =>
        intro s2 hm_63 hv_63
        obtain ⟨hF, hS2, hS27, hS0, ⟨e3, e5⟩, ⟨hN, hZq⟩, nn, t, hTR, hRT, hi, hip⟩ := hv_63
        obtain ⟨⟨hRR, hp_0, hp_n, hT⟩, _⟩ := id hRT
        have e1 : s2 1 = σ 1 := hF.1 1 (by decide) (by decide)
        have hw : ∀ j : Nat, j < 19 → s2 6 j = R8.getD j 0 := by rw [hF.1 6 (by decide) (by decide)]; exact hp2
        have htr := hRR.tr
        have h940 := hp0.len
        refine hX 400 63 _ _ ?_
        intro v12 e12 l12 h12
        have e12 : v12 = s2 0 11 := e12
        refine And.intro (fun c13 => ?_) (fun c13 => ?_)
        · have h302 : tkc (σ 1) (σ 0 2) 900 t.p = 302 := by omega
          refine And.intro (Nat.le_of_ble_eq_true rfl) ?_
          show xw _ _ _ _ _ _ _ _ _ _ [xvr 0, xvi 0] _ _
          have lp_108 : ∀ (m108 : Nat) (i3 : Int) (s3 : xS), ((765 - i3).toNat) = m108 → (Fr [2, 3, 5] [0, 2, 3, 4, 5, 11, 12, 13, 14, 15, 16, 17, 18, 19, 20, 21, 22, 27] σ s3 ∧ (s3 3 = s2 3 ∧ s3 5 = s2 5 ∧ ∀ j : Nat, 765 ≤ j → s3 2 j = σ 2 j) ∧ s3 0 2 = 0 ∧ s3 0 19 = s2 0 19 ∧ (∀ j : Nat, (j : Int) < i3 → s3 2 j = if j < 584 then s2 3 j else 0) ∧ (0 ≤ i3 ∧ i3 ≤ 765)) → X 108 [xvr 0, xvi i3] s3 := by
            intro m108
            induction m108 using Nat.strongRecOn with
            | _ m108 ih_108 =>
            intro i3 s3 hm_108 hv_108
            obtain ⟨hF, ⟨hS3, hS35, hX2⟩, hS0, h319, hC, hv_108⟩ := hv_108
            refine hX 400 108 _ _ ?_
            refine And.intro (fun c15 => ?_) (fun c15 => ?_)
            · have hC2 : ∀ j : Nat, j < 765 → s3 2 j = if j < 584 then s2 3 j else 0 := fun j hj => hC j (by omega)
              have hS35' := hS35
              refine And.intro (Nat.le_of_ble_eq_true rfl) ?_
              show xw _ _ _ _ _ _ _ _ _ _ [xvr 0, xvi 0] _ _
              have lp_146 : ∀ (m146 : Nat) (i4 : Int) (s4 : xS), ((6 - i4).toNat) = m146 → (Fr [2, 3, 5] [0, 2, 3, 4, 5, 11, 12, 13, 14, 15, 16, 17, 18, 19, 20, 21, 22, 27] σ s4 ∧ (∀ q : Nat, q < 12 → s4 5 q = if (q : Int) < i4 then s3 5 (6 + q) else s3 5 q) ∧ s4 2 = s3 2 ∧ s4 0 2 = 0 ∧ s4 0 19 = s2 0 19 ∧ (0 ≤ i4 ∧ i4 ≤ 6)) → X 146 [xvr 0, xvi i4] s4 := by
                intro m146
                induction m146 using Nat.strongRecOn with
                | _ m146 ih_146 =>
                intro i4 s4 hm_146 hv_146
                obtain ⟨hF, hNm, h42, hS0, h419, hv_146⟩ := hv_146
                refine hX 400 146 _ _ ?_
                refine And.intro (fun c17 => ?_) (fun c17 => ?_)
                · have hF := hF.p (j := 27) (v := 0) (by decide)
                  have e42 : ∀ j : Nat, j < 584 → s4 2 j = s2 3 j := fun j hj => by rw [h42, hC2 j (by omega), if_pos hj]
                  have hTH : TH (s2 3) (s2 0 20) := hT
                  have hVS : VS 0 (s4 2) := hTH.1.cp e42
                  refine s_beginsF (σ := (xput s4 0 27 0)) hVS (fun σ19 f19 p19 => ?_)
                  have hF := hF.tr f19 (by decide) (by decide)
                  have p19 : σ19 2 = begF (s4 2) := p19
                  have z27 : σ19 0 27 = 0 := (f19.2 27 (by decide)).trans xput_s
                  have k5 : σ19 5 = s4 5 := f19.1 5 (by decide) (by decide)
                  intro v20 e20 l20 h20
                  have e20 : v20 = σ19 0 19 := e20
                  refine And.intro rfl ?_
                  have kz : σ19 0 19 = s2 0 19 := ((f19.2 19 (by decide)).trans (show s4 0 19 = s2 0 19 from h419))
                  obtain ⟨⟨_, _, _, _⟩, ⟨a0, a1, a2, a3, a4, a5, a6⟩, ⟨b0, b1, b2⟩, c5, c7, c9, c1⟩ := hRT
                  have m1 := hTH.1.1.2.1
                  have m7 := hTH.1.1.2.2.2
                  have hrow : s4 2 = rowT t := rowT_eq ((e42 0 (by decide)).trans a0) ((e42 1 (by decide)).trans a1) ((e42 2 (by decide)).trans a2) ((e42 3 (by decide)).trans a3) ((e42 7 (by decide)).trans a6) (fun i hi => (e42 _ (by omega)).trans (c7 i hi)) (fun i hi h => (e42 _ (by omega)).trans (c9 i h)) (fun i hi => (e42 _ (by omega)).trans (c1 i hi)) ⟨fun i hi => (e42 _ (by omega)).trans (hZq.1 i hi), fun i hi h => by
                    rw [e42 7 (by decide)] at h
                    exact (e42 _ (by omega)).trans (hZq.2 i hi h)⟩ (fun i hi => by
                    rw [h42]
                    by_cases c : i < 765
                    · rw [hC2 i c, if_neg (by omega)]
                    · rw [hX2 i (by omega)]; exact hp4 i (by omega))
                  rw [hrow] at hVS p19
                  refine hQ _ _ hF ⟨_, ⟨nn, t, hTR, Or.inl ⟨h302, rfl⟩⟩, Or.inr ⟨nn, t, rfl, (show v20 = (nn : Int) from by omega), hVS, b1, p19, fun q hq => ?_, z27⟩⟩
                  · rw [k5, hNm q (by omega), if_pos (by omega), hS35']; exact c5 q hq
                · intro z21 t21 e21 l21 h21
                  try have w21 : t21 = 0 := by omega
                  refine And.intro (rfl) (And.intro (⟨by omega, by omega⟩) ?_)
                  intro v22 e22 l22 h22
                  have e22 : v22 = s4 5 z21.toNat := e22
                  refine And.intro rfl (And.intro (⟨by omega, by omega⟩) ?_)
                  have hF := hF.pt (t := 5) (j := i4.toNat) (v := v22) (by decide) (by decide)
                  intro z24 t24 e24 l24 h24
                  try have w24 : t24 = 0 := by omega
                  show xw _ _ _ _ _ _ _ _ _ _ [xvr 0, xvi z24] _ _
                  exact ih_146 _ (show (6 - z24).toNat < m146 from by omega) z24 (xput s4 5 i4.toNat v22) rfl ⟨hF, (fun q hq => by
                            by_cases e : q = i4.toNat
                            · rw [show q = i4.toNat from by omega, xput_s, if_pos (by omega), e22, hNm _ (by omega), if_neg (by omega)]; congr 1; omega
                            · rw [xput_o (by omega), hNm q hq]
                              by_cases c : (q : Int) < i4
                              · rw [if_pos c, if_pos (by omega)]
                              · rw [if_neg c, if_neg (by omega)]), h42, hS0, h419, by omega⟩
              exact lp_146 _ 0 s3 rfl ⟨hF, (fun q hq => by rw [if_neg (by omega)]), rfl, hS0, h319, by omega⟩
            · refine And.intro (fun c25 => ?_) (fun c25 => ?_)
              · refine And.intro (rfl) (And.intro (⟨by omega, by omega⟩) ?_)
                have hF := hF.pt (t := 2) (j := i3.toNat) (v := 0) (by decide) (by decide)
                intro z27 t27 e27 l27 h27
                try have w27 : t27 = 0 := by omega
                show xw _ _ _ _ _ _ _ _ _ _ [xvr 0, xvi z27] _ _
                exact ih_108 _ (show (765 - z27).toNat < m108 from by omega) z27 (xput s3 2 i3.toNat 0) rfl ⟨hF, ⟨hS3, hS35, (fun j hj => by rw [xput_o (by omega)]; exact hX2 j hj)⟩, hS0, h319, (fun q hq => by
                          by_cases e : q = i3.toNat
                          · rw [show q = i3.toNat from by omega, xput_s, if_neg (by omega)]
                          · rw [xput_o (by omega)]; exact hC q (by omega)), by omega⟩
              · refine And.intro (rfl) (And.intro (⟨by omega, by omega⟩) ?_)
                intro v28 e28 l28 h28
                have e28 : v28 = s3 3 i3.toNat := e28
                refine And.intro (rfl) (And.intro (⟨by omega, by omega⟩) ?_)
                have hF := hF.pt (t := 2) (j := i3.toNat) (v := v28) (by decide) (by decide)
                intro z30 t30 e30 l30 h30
                try have w30 : t30 = 0 := by omega
                show xw _ _ _ _ _ _ _ _ _ _ [xvr 0, xvi z30] _ _
                exact ih_108 _ (show (765 - z30).toNat < m108 from by omega) z30 (xput s3 2 i3.toNat v28) rfl ⟨hF, ⟨hS3, hS35, (fun j hj => by rw [xput_o (by omega)]; exact hX2 j hj)⟩, hS0, h319, (fun q hq => by
                          by_cases e : q = i3.toNat
                          · rw [show q = i3.toNat from by omega, xput_s, e28, if_pos (by omega), hS3]
                          · rw [xput_o (by omega)]; exact hC q (by omega)), by omega⟩
          exact lp_108 _ 0 s2 rfl ⟨hF, ⟨rfl, rfl, fun j _ => congrFun hS2 j⟩, hS0, rfl, (fun j hj => by omega), by omega⟩
        · have lp_86 : ∀ (s5 : xS), (Fr [2, 3, 5] [0, 2, 3, 4, 5, 11, 12, 13, 14, 15, 16, 17, 18, 19, 20, 21, 22, 27] σ s5 ∧ s5 2 = σ 2 ∧ s5 0 27 = σ 0 27 ∧ s5 0 2 = 0 ∧ (∀ q : Nat, q < 6 → s5 5 q = σ 5 q) ∧ ¬ tkc (σ 1) (σ 0 2) 900 t.p = 302 ∧ tst (σ 1) (σ 0 2) 900 t = .inl (s5 0 15, s5 0 16)) → X 86 [xvr 0, xvi i] s5 := by
            intro s5 hv_86
            obtain ⟨hF, hS2, hS27, hS0, hN5, hne, he⟩ := hv_86
            refine hX 400 86 _ _ ?_
            intro v32 e32 l32 h32
            have e32 : v32 = s5 0 16 := e32
            intro z33 t33 e33 l33 h33
            try have w33 : t33 = 0 := by omega
            refine And.intro rfl ?_
            exact hQ _ _ hF ⟨_, ⟨nn, t, hTR, Or.inr ⟨hne, _, he, rfl⟩⟩, Or.inl ⟨_, rfl, (show z33 = -1 - s5 0 16 from by omega), hS2, hN5, hS27, rfl⟩⟩
          have hne : ¬ tkc (σ 1) (σ 0 2) 900 t.p = 302 := by omega
          refine s_lineJ (σ := s2) (b := σ 1) (n := σ 0 2) (m := 900) (s := t) h940.2 hp1 ⟨e1, e3, e5⟩ hw hRT (show 0 ≤ s2 0 4 ∧ s2 0 4 ≤ s2 0 3 ∧ s2 0 3 ≤ 940 from by have z := hRT.1.1.2.2.2.2.2.2; have z2 := tkp_r (b := σ 1) (n := σ 0 2) (m := 900) hRT.1.2.1 hRT.1.2.2.1; omega) hRT.1.2.2.2 (fun r34 σ34 f34 p34 => ?_)
          obtain ⟨⟨p34, zq34⟩, nq34⟩ := p34
          have hbl : r34 = 0 ∨ r34 = 1 := by
            rcases p34 with q | q
            · exact Or.inr q.1
            · exact Or.inl q.1
          have hF := hF.tr f34 (by decide) (by decide)
          have hS2 : σ34 2 = σ 2 := (f34.1 2 (by decide) (by decide)).trans hS2
          have hS27 : σ34 0 27 = σ 0 27 := (f34.2 27 (by decide)).trans hS27
          have hS0 : σ34 0 2 = 0 := (f34.2 2 (by decide)).trans hS0
          have g3 : σ34 0 3 = σ 0 2 := (f34.2 3 (by decide)).trans (show s2 0 3 = σ 0 2 from by omega)
          have g5 : σ34 0 5 = 900 := (f34.2 5 (by decide)).trans (show s2 0 5 = 900 from by omega)
          have kl : σ34 0 19 = s2 0 19 := f34.2 19 (by decide)
          have hN : ∀ q : Nat, q < 6 → σ34 5 q = σ 5 q := fun q hq => (nq34 q hq).trans (hN q hq)
          refine And.intro (fun c35 => ?_) (fun c35 => ?_)
          · exact lp_86 σ34 ⟨hF, hS2, hS27, hS0, hN, hne, by
              rcases p34 with q | q
              · exact absurd q.1 (by omega)
              · exact q.2⟩
          · obtain ⟨u, hu, hRu⟩ : ∃ u, tln (σ 1) (σ 0 2) 900 t = .inr u ∧ RTR σ34 (σ 1) (σ 0 2) 900 u := by
              rcases p34 with q | q
              · exact q.2
              · exact absurd q.1 (by omega)
            have u4 : σ34 0 4 = tkp (σ 1) (σ 0 2) 900 u.p := hRu.1.1.2.2.2.2.2.2
            have u5 := tkp_r (b := σ 1) (n := σ 0 2) (m := 900) hRu.1.2.1 hRu.1.2.2.1
            have u0 := hRu.1.2.1
            refine s_signG (σ := σ34) (b := σ 1) (n := σ 0 2) (m := 900) (p := u.p) (c := 59) (show 0 ≤ σ34 0 4 ∧ σ34 0 4 ≤ σ 0 2 ∧ σ 0 2 ≤ 940 from by omega) hp1 (hF.1 1 (by decide) (by decide)) g3 g5 hRu.1.1 (by decide) (fun r36 σ36 f36 p36 => ?_)
            have hbl2 : r36 = 0 ∨ r36 = 1 := by
              rcases p36 with q | q
              · exact Or.inr q.1
              · exact Or.inl q.1
            have hF := hF.tr f36 (by decide) (by decide)
            have hS2 : σ36 2 = σ 2 := (f36.1 2 (by decide) (by decide)).trans hS2
            have hS27 : σ36 0 27 = σ 0 27 := (f36.2 27 (by decide)).trans hS27
            have hS0 : σ36 0 2 = 0 := (f36.2 2 (by decide)).trans hS0
            have g3 : σ36 0 3 = σ 0 2 := (f36.2 3 (by decide)).trans (show σ34 0 3 = σ 0 2 from by omega)
            have g5 : σ36 0 5 = 900 := (f36.2 5 (by decide)).trans (show σ34 0 5 = 900 from by omega)
            have kl2 : σ36 0 19 = s2 0 19 := (f36.2 19 (by decide)).trans kl
            have hN : ∀ q : Nat, q < 6 → σ36 5 q = σ 5 q := fun q hq => (congrFun (f36.1 5 (by decide) (by decide)) q).trans (hN q hq)
            have k3_36 : σ36 3 = σ34 3 := f36.1 3 (by decide) (by decide)
            refine And.intro (fun c37 => ?_) (fun c37 => ?_)
            · obtain ⟨h59, hq4, hRn⟩ : tkc (σ 1) (σ 0 2) 900 u.p = 59 ∧ (0 ≤ σ36 0 4 ∧ σ36 0 4 ≤ σ 0 2) ∧ RRs σ36 (σ 1) (σ 0 2) 900 (tkp (σ 1) (σ 0 2) 900 u.p) := by
                rcases p36 with q | q
                · exact q.2
                · exact absurd q.1 (by omega)
              have hst := tst_1 hu h59
              have hsp : t.p + 2 ≤ tkp (σ 1) (σ 0 2) 900 u.p ∧ tkp (σ 1) (σ 0 2) 900 u.p ≤ σ 0 2 := tst_p hp_0 hp_n hst
              intro v38 e38 l38 h38
              have e38 : v38 = σ36 0 19 := e38
              intro z39 t39 e39 l39 h39
              try have w39 : t39 = 0 := by omega
              have hF := hF.p (j := 19) (v := z39) (by decide)
              exact ih_63 _ (show (940 - (z39)).toNat < m63 from by omega) (xput σ36 0 19 z39) rfl ⟨hF, hS2, hS27, hS0, ⟨(show σ36 0 3 = σ 0 2 from g3), (show σ36 0 5 = 900 from g5)⟩, ⟨hN, (by rw [show (xput σ36 0 19 z39) 3 = σ34 3 from k3_36]; exact zq34 (by omega) hZq)⟩, nn + 1, u.wp (tkp (σ 1) (σ 0 2) 900 u.p), ⟨t, hTR, hne, hst⟩, hRu.ps ((Fr.rf.tr f36 (by decide) (by decide)).p (j := 19) (v := z39) (by decide)) (show RRs (xput σ36 0 19 z39) (σ 1) (σ 0 2) 900 (tkp (σ 1) (σ 0 2) 900 u.p) from hRn) (by omega) u5.2.1, (show z39 = ((nn + 1 : Nat) : Int) from by omega), (by
                        show 2 * ((nn + 1 : Nat) : Int) ≤ tkp (σ 1) (σ 0 2) 900 u.p
                        omega)⟩
            · exact lp_86 σ36 ⟨hF, hS2, hS27, hS0, hN, hne, by
                rcases p36 with q | q
                · exact absurd q.1 (by omega)
                · rw [q.2.2.1, q.2.2.2]; exact tst_0 hu q.2.1⟩
      exact lp_63 _ σ10 rfl ⟨hF, hS2, hS27, hS0, ⟨g3, g5⟩, ⟨hN0, hZq0⟩, 0, s, rfl, hRT, k19, by rw [hp00]; decide⟩
    · refine And.intro (rfl) (And.intro (⟨by omega, by omega⟩) ?_)
      have hF := hF.pt (t := 3) (j := i.toNat) (v := 0) (by decide) (by decide)
      intro z42 t42 e42 l42 h42
      try have w42 : t42 = 0 := by omega
      show xw _ _ _ _ _ _ _ _ _ _ [xvr 0, xvi z42] _ _
      exact ih_39 _ (show (584 - z42).toNat < m39 from by omega) z42 (xput s1 3 i.toNat 0) rfl ⟨hF, hS2, hS27, hS0, hN1, (fun q hq => by
                by_cases e : q = i.toNat
                · rw [show q = i.toNat from by omega, xput_s]
                · rw [xput_o (by omega)]; exact hZ q (by omega)), (show s1 0 4 = 0 ∧ s1 0 3 = σ 0 2 ∧ s1 0 5 = 900 ∧ s1 0 19 = 0 ∧ s1 0 20 = 0 ∧ s1 0 21 = 0 ∧ s1 0 22 = 0 ∧ 0 ≤ z42 ∧ z42 ≤ 584 from by omega)⟩
  exact lp_39 _ 0 (xput (xput (xput (xput (xput σ2 0 15 0) 0 19 0) 0 20 0) 0 21 0) 0 22 0) rfl ⟨hF, hS2, hS27, hS0, (fun q => congrFun (f2.1 5 (by decide) (by decide)) q), (fun j hj => by omega), (show σ2 0 4 = 0 ∧ σ2 0 3 = σ 0 2 ∧ σ2 0 5 = 900 ∧ (0 : Int) = 0 ∧ (0 : Int) = 0 ∧ (0 : Int) = 0 ∧ (0 : Int) = 0 ∧ (0 : Int) ≤ 0 ∧ (0 : Int) ≤ 584 from by omega)⟩

