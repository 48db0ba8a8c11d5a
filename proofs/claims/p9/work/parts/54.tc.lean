/-- the tape is taken; the invariant holds -/
def RZ (σ σ' : xS) : Prop := RI σ' ∧ σ' 0 2 = 0 ∧ σ' 27 = σ 27 ∧ σ' 1 = σ 1 ∧ σ' 6 = σ 6
theorem RZ.fr {ts js : List Nat} {σ σ' : xS} (h : RI σ) (h2 : Fr ts js σ σ') (e2 : σ' 2 = σ 2) (e27 : σ' 0 27 = σ 0 27) (t8 : 8 ∉ ts) (t25 : 25 ∉ ts) (t27 : 27 ∉ ts) (c : 37 ∉ js) (hz : σ' 0 2 = 0) (t1 : 1 ∉ ts := by decide) (t6 : 6 ∉ ts := by decide) : RZ σ σ' := by
  refine ⟨?_, hz, h2.1 27 (by decide) t27, h2.1 1 (by decide) t1, h2.1 6 (by decide) t6⟩
  unfold RI
  rw [e2, h2.1 8 (by decide) t8, h2.1 25 (by decide) t25, h2.1 27 (by decide) t27, e27, h2.2 37 c, hz]
  exact ⟨h.1, h.2.1, by decide, h.2.2.2⟩
theorem CO.z {f : Nat → Int} (h : f 584 = 0) : CO f := ⟨by omega, fun _ => 0, rfl, fun i hi => by omega⟩
theorem RZ.new {ts js : List Nat} {σ σ' : xS} (h : RI σ) (h2 : Fr ts js σ σ') (hG : VG (σ' 2)) (hC : σ' 2 584 = 0) (e27 : σ' 0 27 = 0) (t25 : 25 ∉ ts) (t27 : 27 ∉ ts) (c : 37 ∉ js) (hz : σ' 0 2 = 0) (t1 : 1 ∉ ts := by decide) (t6 : 6 ∉ ts := by decide) : RZ σ σ' := by
  refine ⟨⟨hG, CO.z hC, by omega, by omega, fun j hj => by omega, ?_, ?_⟩, hz, h2.1 27 (by decide) t27, h2.1 1 (by decide) t1, h2.1 6 (by decide) t6⟩
  · rw [h2.2 37 c]; exact h.2.2.2.2.2.1
  · rw [h2.1 25 (by decide) t25, h2.1 27 (by decide) t27]; exact h.2.2.2.2.2.2
theorem VS.cp {f g : Nat → Int} (h : VS 0 g) (a : ∀ i, i < 584 → f i = g i) : VS 0 f := h.ag8 (fun i hi _ => a i hi)
set_option maxHeartbeats 4000000 in
set_option maxRecDepth 100000 in
theorem s_table {σ : xS} {Q : Option xV → xS → Prop} (hp0 : RI σ) (hQ : ∀ r : Int, ∀ σ' : xS, RZ σ σ' → Q (some (xvi r)) σ') : xT kX11_table [xvr 0] σ Q := by
  refine ⟨Nat.le_of_ble_eq_true rfl, fun X hX => ?_⟩
  show X 0 [xvr 0, xvu] σ
  have hF : Fr [2, 3, 5] [0, 2, 3, 4, 5, 11, 12, 13, 14, 15, 16, 17, 18, 19, 20, 21, 22, 27] σ σ := Fr.rf
  refine hX 400 0 _ _ ?_
  have hl := hp0.len
  have hF := hF.p (j := 0) (v := 0) (by decide)
  refine s_taken (σ := (xput σ 0 0 0)) (most := 900) (fun σ2 f2 p2 => ?_)
  have p2 : σ2 0 3 = (σ 0 2) ∧ σ2 0 2 = 0 ∧ σ2 0 4 = 0 ∧ σ2 0 5 = 900 := p2
  have hF := hF.tr f2 (by decide) (by decide)
  have hS2 : σ2 2 = σ 2 := f2.1 2 (by decide) (by decide)
  have hS27 : σ2 0 27 = σ 0 27 := f2.2 27 (by decide)
  have hS0 : σ2 0 2 = 0 := p2.2.1
  have hF := hF.p (j := 15) (v := 0) (by decide)
  have hF := hF.p (j := 19) (v := 0) (by decide)
  refine And.intro (by omega) ?_
  have hF := hF.p (j := 20) (v := 0) (by decide)
  refine And.intro (by omega) ?_
  have hF := hF.p (j := 21) (v := 0) (by decide)
  refine And.intro (by omega) ?_
  have hF := hF.p (j := 22) (v := 0) (by decide)
  refine And.intro (Nat.le_of_ble_eq_true rfl) ?_
  show xw _ _ _ _ _ _ _ _ _ _ [xvr 0, xvi 0] _ _
  have lp_39 : ∀ (m39 : Nat) (i : Int) (s1 : xS), ((584 - i).toNat) = m39 → (Fr [2, 3, 5] [0, 2, 3, 4, 5, 11, 12, 13, 14, 15, 16, 17, 18, 19, 20, 21, 22, 27] σ s1 ∧ s1 2 = σ 2 ∧ s1 0 27 = σ 0 27 ∧ s1 0 2 = 0 ∧ (∀ j : Nat, (j : Int) < i → s1 3 j = 0) ∧ (s1 0 4 = 0 ∧ s1 0 3 = σ 0 2 ∧ s1 0 20 = 0 ∧ 0 ≤ i ∧ i ≤ 584)) → X 39 [xvr 0, xvi i] s1 := by
    intro m39
    induction m39 using Nat.strongRecOn with
    | _ m39 ih_39 =>
    intro i s1 hm_39 hv_39
    obtain ⟨hF, hS2, hS27, hS0, hZ, hv_39⟩ := hv_39
    refine hX 400 39 _ _ ?_
    refine And.intro (fun c9 => ?_) (fun c9 => ?_)
    · have hT : TH (s1 3) (s1 0 20) := ⟨VS.zero (fun j hj => hZ j (by omega)), hZ 6 (by omega), fun _ => hZ 0 (by omega)⟩
      refine s_next (σ := s1)  (show 0 ≤ s1 0 4 ∧ s1 0 4 ≤ s1 0 3 ∧ s1 0 3 ≤ 940 from by omega) (fun σ10 f10 p10 => ?_)
      have p10 : σ10 0 3 = (s1 0 3) ∧ (s1 0 4) ≤ σ10 0 4 ∧ σ10 0 4 ≤ σ10 0 3 ∧ (0 ≤ σ10 0 11 ∧ σ10 0 11 ≤ 4) ∧ (1 ≤ σ10 0 11 ∧ σ10 0 11 ≤ 3 → (s1 0 4) < σ10 0 4 ∧ 0 ≤ σ10 0 14) := p10
      have hF := hF.tr f10 (by decide) (by decide)
      have kt10 : σ10 3 = s1 3 := f10.1 3 (by decide) (by decide)
      have k20_10 : σ10 0 20 = s1 0 20 := f10.2 20 (by decide)
      have hT : TH (σ10 3) (σ10 0 20) := by rw [kt10, k20_10]; exact hT
      have q0_10 := congrFun kt10 0; have q1_10 := congrFun kt10 1; have q7_10 := congrFun kt10 7
      have hS2 : σ10 2 = σ 2 := (f10.1 2 (by decide) (by decide)).trans hS2
      have hS27 : σ10 0 27 = σ 0 27 := (f10.2 27 (by decide)).trans hS27
      have hS0 : σ10 0 2 = 0 := (f10.2 2 (by decide)).trans hS0
      have lp_63 : ∀ (m63 : Nat) (s2 : xS), ((940 - s2 0 4).toNat) = m63 → (Fr [2, 3, 5] [0, 2, 3, 4, 5, 11, 12, 13, 14, 15, 16, 17, 18, 19, 20, 21, 22, 27] σ s2 ∧ s2 2 = σ 2 ∧ s2 0 27 = σ 0 27 ∧ s2 0 2 = 0 ∧ TH (s2 3) (s2 0 20) ∧ (0 ≤ s2 0 4 ∧ s2 0 4 ≤ s2 0 3 ∧ s2 0 3 ≤ 940)) → X 63 [xvr 0, xvi i] s2 := by
        intro m63
        induction m63 using Nat.strongRecOn with
        | _ m63 ih_63 =>
        intro s2 hm_63 hv_63
        obtain ⟨hF, hS2, hS27, hS0, hT, hv_63⟩ := hv_63
        refine hX 400 63 _ _ ?_
        intro v12 e12 l12 h12
        have e12 : v12 = s2 0 11 := e12
        refine And.intro (fun c13 => ?_) (fun c13 => ?_)
        · refine And.intro (Nat.le_of_ble_eq_true rfl) ?_
          show xw _ _ _ _ _ _ _ _ _ _ [xvr 0, xvi 0] _ _
          have lp_108 : ∀ (m108 : Nat) (i3 : Int) (s3 : xS), ((765 - i3).toNat) = m108 → (Fr [2, 3, 5] [0, 2, 3, 4, 5, 11, 12, 13, 14, 15, 16, 17, 18, 19, 20, 21, 22, 27] σ s3 ∧ s3 3 = s2 3 ∧ s3 0 2 = 0 ∧ (∀ j : Nat, (j : Int) < i3 → s3 2 j = if j < 584 then s2 3 j else 0) ∧ (0 ≤ i3 ∧ i3 ≤ 765)) → X 108 [xvr 0, xvi i3] s3 := by
            intro m108
            induction m108 using Nat.strongRecOn with
            | _ m108 ih_108 =>
            intro i3 s3 hm_108 hv_108
            obtain ⟨hF, hS3, hS0, hC, hv_108⟩ := hv_108
            refine hX 400 108 _ _ ?_
            refine And.intro (fun c15 => ?_) (fun c15 => ?_)
            · refine And.intro (Nat.le_of_ble_eq_true rfl) ?_
              show xw _ _ _ _ _ _ _ _ _ _ [xvr 0, xvi 0] _ _
              have lp_146 : ∀ (m146 : Nat) (i4 : Int) (s4 : xS), ((6 - i4).toNat) = m146 → (Fr [2, 3, 5] [0, 2, 3, 4, 5, 11, 12, 13, 14, 15, 16, 17, 18, 19, 20, 21, 22, 27] σ s4 ∧ s4 2 = s3 2 ∧ s4 0 2 = 0 ∧ (0 ≤ i4 ∧ i4 ≤ 6)) → X 146 [xvr 0, xvi i4] s4 := by
                intro m146
                induction m146 using Nat.strongRecOn with
                | _ m146 ih_146 =>
                intro i4 s4 hm_146 hv_146
                obtain ⟨hF, h42, hS0, hv_146⟩ := hv_146
                refine hX 400 146 _ _ ?_
                refine And.intro (fun c17 => ?_) (fun c17 => ?_)
                · have hF := hF.p (j := 27) (v := 0) (by decide)
                  have hV0 : VS 0 (s4 2) := by
                    rw [h42]
                    refine hT.1.cp (fun j hj => ?_)
                    rw [hC j (by omega), if_pos hj]
                  have h46 : s4 2 6 = 0 := by
                    rw [h42, hC 6 (by omega), if_pos (by omega)]; exact hT.2.1
                  have h4c : s4 2 584 = 0 := by
                    rw [h42, hC 584 (by omega), if_neg (by omega)]
                  refine s_begins (σ := (xput s4 0 27 0)) hV0 h46 (fun σ19 f19 p19 => ?_)
                  have hF := hF.tr f19 (by decide) (by decide)
                  have z2 : σ19 0 2 = 0 := (f19.2 2 (by decide)).trans hS0
                  have z27 : σ19 0 27 = 0 := (f19.2 27 (by decide)).trans xput_s
                  have zc : σ19 2 584 = 0 := (p19.2 584 (by omega) (by omega) (by omega) (by omega)).trans h4c
                  intro v20 e20 l20 h20
                  have e20 : v20 = σ19 0 19 := e20
                  refine And.intro rfl ?_
                  exact hQ _ _ (RZ.new hp0 hF p19.1 zc z27 (by decide) (by decide) (by decide) z2)
                · intro z21 t21 e21 l21 h21
                  try have w21 : t21 = 0 := by omega
                  refine And.intro (rfl) (And.intro (⟨by omega, by omega⟩) ?_)
                  intro v22 e22 l22 h22
                  have e22 : v22 = s4 5 z21.toNat := e22
                  refine And.intro rfl (And.intro (⟨by omega, by omega⟩) ?_)
                  have hF := hF.pt (t := 5) (j := i4.toNat) (v := v22) (by decide) (by decide)
                  intro z24 t24 e24 l24 h24
                  try have w24 : t24 = 0 := by omega
                  show xw _ _ _ _ _ _ _ _ _ _ [xvr 0, xvi z24] _ _
                  exact ih_146 _ (show (6 - z24).toNat < m146 from by omega) z24 (xput s4 5 i4.toNat v22) rfl ⟨hF, h42, hS0, by omega⟩
              exact lp_146 _ 0 s3 rfl ⟨hF, rfl, hS0, by omega⟩
            · refine And.intro (fun c25 => ?_) (fun c25 => ?_)
              · refine And.intro (rfl) (And.intro (⟨by omega, by omega⟩) ?_)
                have hF := hF.pt (t := 2) (j := i3.toNat) (v := 0) (by decide) (by decide)
                intro z27 t27 e27 l27 h27
                try have w27 : t27 = 0 := by omega
                show xw _ _ _ _ _ _ _ _ _ _ [xvr 0, xvi z27] _ _
                exact ih_108 _ (show (765 - z27).toNat < m108 from by omega) z27 (xput s3 2 i3.toNat 0) rfl ⟨hF, hS3, hS0, (fun q hq => by
                          by_cases e : q = i3.toNat
                          · rw [show q = i3.toNat from by omega, xput_s, if_neg (by omega)]
                          · rw [xput_o (by omega)]; exact hC q (by omega)), by omega⟩
              · refine And.intro (rfl) (And.intro (⟨by omega, by omega⟩) ?_)
                intro v28 e28 l28 h28
                have e28 : v28 = s3 3 i3.toNat := e28
                refine And.intro (rfl) (And.intro (⟨by omega, by omega⟩) ?_)
                have hF := hF.pt (t := 2) (j := i3.toNat) (v := v28) (by decide) (by decide)
                intro z30 t30 e30 l30 h30
                try have w30 : t30 = 0 := by omega
                show xw _ _ _ _ _ _ _ _ _ _ [xvr 0, xvi z30] _ _
                exact ih_108 _ (show (765 - z30).toNat < m108 from by omega) z30 (xput s3 2 i3.toNat v28) rfl ⟨hF, hS3, hS0, (fun q hq => by
                          by_cases e : q = i3.toNat
                          · rw [show q = i3.toNat from by omega, xput_s, e28, if_pos (by omega), hS3]
                          · rw [xput_o (by omega)]; exact hC q (by omega)), by omega⟩
          exact lp_108 _ 0 s2 rfl ⟨hF, rfl, hS0, (fun j hj => by omega), by omega⟩
        · refine s_line (σ := s2) (show 0 ≤ s2 0 4 ∧ s2 0 4 ≤ s2 0 3 ∧ s2 0 3 ≤ 940 from by omega) hT (fun r31 σ31 f31 p31 => ?_)
          have p31 : (r31 = 1 ∧ TH (σ31 3) (σ31 0 20) ∧ σ31 0 3 = (s2 0 3) ∧ (s2 0 4) ≤ σ31 0 4 ∧ σ31 0 4 ≤ σ31 0 3 ∧ (σ31 0 11 = 3 → (s2 0 4) < σ31 0 4)) ∨ (r31 = 0 ∧ (0 : Int) ≤ 0) := by
            rcases p31 with q | q
            · exact Or.inl q
            · exact Or.inr ⟨q, by omega⟩
          have hF := hF.tr f31 (by decide) (by decide)
          have hS2 : σ31 2 = σ 2 := (f31.1 2 (by decide) (by decide)).trans hS2
          have hS27 : σ31 0 27 = σ 0 27 := (f31.2 27 (by decide)).trans hS27
          have hS0 : σ31 0 2 = 0 := (f31.2 2 (by decide)).trans hS0
          refine And.intro (fun c32 => ?_) (fun c32 => ?_)
          · replace p31 : (0 : Int) ≤ 0 := by
              rcases p31 with q | q
              · exact absurd q.1 (by omega)
              · exact q.2
            refine hX 400 86 _ _ ?_
            intro v33 e33 l33 h33
            have e33 : v33 = σ31 0 16 := e33
            intro z34 t34 e34 l34 h34
            try have w34 : t34 = 0 := by omega
            refine And.intro rfl ?_
            exact hQ _ _ (RZ.fr hp0 hF hS2 hS27 (by decide) (by decide) (by decide) (by decide) hS0)
          · replace p31 : TH (σ31 3) (σ31 0 20) ∧ σ31 0 3 = (s2 0 3) ∧ (s2 0 4) ≤ σ31 0 4 ∧ σ31 0 4 ≤ σ31 0 3 ∧ (σ31 0 11 = 3 → (s2 0 4) < σ31 0 4) := by
              rcases p31 with q | q
              · exact q.2
              · exact absurd q.1 (by omega)
            have hT := p31.1
            have p31 := p31.2
            refine s_sign (σ := σ31) (c := 59) (show 0 ≤ σ31 0 4 ∧ σ31 0 4 ≤ σ31 0 3 ∧ σ31 0 3 ≤ 940 from by omega) (fun r35 σ35 f35 p35 => ?_)
            have p35 : (r35 = 1 ∧ (σ31 0 11) = 3 ∧ (σ31 0 14) = 59 ∧ (σ35 0 3 = (σ31 0 3) ∧ (σ31 0 4) ≤ σ35 0 4 ∧ σ35 0 4 ≤ σ35 0 3 ∧ (0 ≤ σ35 0 11 ∧ σ35 0 11 ≤ 4) ∧ (1 ≤ σ35 0 11 ∧ σ35 0 11 ≤ 3 → (σ31 0 4) < σ35 0 4 ∧ 0 ≤ σ35 0 14))) ∨ (r35 = 0 ∧ (0 : Int) ≤ 0) := by
              rcases p35 with q | q
              · exact Or.inl q
              · exact Or.inr ⟨q, by omega⟩
            have hF := hF.tr f35 (by decide) (by decide)
            have kt35 : σ35 3 = σ31 3 := f35.1 3 (by decide) (by decide)
            have k20_35 : σ35 0 20 = σ31 0 20 := f35.2 20 (by decide)
            have hT : TH (σ35 3) (σ35 0 20) := by rw [kt35, k20_35]; exact hT
            have q0_35 := congrFun kt35 0; have q1_35 := congrFun kt35 1; have q7_35 := congrFun kt35 7
            have hS2 : σ35 2 = σ 2 := (f35.1 2 (by decide) (by decide)).trans hS2
            have hS27 : σ35 0 27 = σ 0 27 := (f35.2 27 (by decide)).trans hS27
            have hS0 : σ35 0 2 = 0 := (f35.2 2 (by decide)).trans hS0
            refine And.intro (fun c36 => ?_) (fun c36 => ?_)
            · replace p35 : (σ31 0 11) = 3 ∧ (σ31 0 14) = 59 ∧ (σ35 0 3 = (σ31 0 3) ∧ (σ31 0 4) ≤ σ35 0 4 ∧ σ35 0 4 ≤ σ35 0 3 ∧ (0 ≤ σ35 0 11 ∧ σ35 0 11 ≤ 4) ∧ (1 ≤ σ35 0 11 ∧ σ35 0 11 ≤ 3 → (σ31 0 4) < σ35 0 4 ∧ 0 ≤ σ35 0 14)) := by
                rcases p35 with q | q
                · exact q.2
                · exact absurd q.1 (by omega)
              intro v37 e37 l37 h37
              have e37 : v37 = σ35 0 19 := e37
              intro z38 t38 e38 l38 h38
              try have w38 : t38 = 0 := by omega
              have hF := hF.p (j := 19) (v := z38) (by decide)
              exact ih_63 _ (show (940 - (σ35 0 4)).toNat < m63 from by omega) (xput σ35 0 19 z38) rfl ⟨hF, hS2, hS27, hS0, hT, (show 0 ≤ σ35 0 4 ∧ σ35 0 4 ≤ σ35 0 3 ∧ σ35 0 3 ≤ 940 from by omega)⟩
            · replace p35 : (0 : Int) ≤ 0 := by
                rcases p35 with q | q
                · exact absurd q.1 (by omega)
                · exact q.2
              refine hX 400 86 _ _ ?_
              intro v40 e40 l40 h40
              have e40 : v40 = σ35 0 16 := e40
              intro z41 t41 e41 l41 h41
              try have w41 : t41 = 0 := by omega
              refine And.intro rfl ?_
              exact hQ _ _ (RZ.fr hp0 hF hS2 hS27 (by decide) (by decide) (by decide) (by decide) hS0)
      exact lp_63 _ σ10 rfl ⟨hF, hS2, hS27, hS0, hT, by omega⟩
    · refine And.intro (rfl) (And.intro (⟨by omega, by omega⟩) ?_)
      have hF := hF.pt (t := 3) (j := i.toNat) (v := 0) (by decide) (by decide)
      intro z43 t43 e43 l43 h43
      try have w43 : t43 = 0 := by omega
      show xw _ _ _ _ _ _ _ _ _ _ [xvr 0, xvi z43] _ _
      exact ih_39 _ (show (584 - z43).toNat < m39 from by omega) z43 (xput s1 3 i.toNat 0) rfl ⟨hF, hS2, hS27, hS0, (fun q hq => by
                by_cases e : q = i.toNat
                · rw [show q = i.toNat from by omega, xput_s]
                · rw [xput_o (by omega)]; exact hZ q (by omega)), (show s1 0 4 = 0 ∧ s1 0 3 = σ 0 2 ∧ s1 0 20 = 0 ∧ 0 ≤ z43 ∧ z43 ≤ 584 from by omega)⟩
  exact lp_39 _ 0 (xput (xput (xput (xput (xput σ2 0 15 0) 0 19 0) 0 20 0) 0 21 0) 0 22 0) rfl ⟨hF, hS2, hS27, hS0, (fun j hj => by omega), (show σ2 0 4 = 0 ∧ σ2 0 3 = σ 0 2 ∧ (0 : Int) = 0 ∧ (0 : Int) ≤ 0 ∧ (0 : Int) ≤ 584 from by omega)⟩
