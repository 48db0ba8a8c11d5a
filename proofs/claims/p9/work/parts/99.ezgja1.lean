set_option maxHeartbeats 4000000 in
set_option maxRecDepth 100000 in
theorem s_nextF {σ : xS} {Q : Option xV → xS → Prop} (hp0 : 0 ≤ σ 0 4 ∧ σ 0 4 ≤ σ 0 3 ∧ σ 0 3 ≤ 940) (hp1 : BYx (σ 1) (σ 0 3)) (hQ : ∀ σ' : xS, Fr [] [4, 11, 12, 13, 14, 17] σ σ' → ((0 ≤ σ' 0 4 ∧ σ' 0 4 ≤ σ 0 3) ∧ NXT (σ 1) (σ 0 3) (σ 0 5) (σ 0 4) (σ' 0 11) (σ' 0 14) (σ' 0 17) (σ' 0 12) (σ' 0 4)) → Q none σ') : xT kX11_next [xvr 0] σ Q := by
  refine ⟨Nat.le_of_ble_eq_true rfl, fun X hX => ?_⟩
  show X 0 [xvr 0, xvu, xvu, xvu] σ
  have hF : Fr [] [4, 11, 12, 13, 14, 17] σ σ := Fr.rf
  
  have lp_0 : ∀ (m0 : Nat) (s1 : xS), ((s1 0 3 - s1 0 4).toNat) = m0 → (Fr [] [4, 11, 12, 13, 14, 17] σ s1 ∧ (s1 0 3 = σ 0 3 ∧ s1 0 5 = σ 0 5 ∧ σ 0 4 ≤ s1 0 4 ∧ s1 0 4 ≤ s1 0 3) ∧ ∀ i : Nat, σ 0 4 ≤ i → (i : Int) < s1 0 4 → bkC (σ 1 i)) → X 0 [xvr 0, xvu, xvu, xvu] s1 := by
    intro m0
    induction m0 using Nat.strongRecOn with
    | _ m0 ih_0 =>
    intro s1 hm_0 hv_0
    obtain ⟨hF, hv_0, hB⟩ := hv_0
    have e1 : s1 1 = σ 1 := hF.1 1 (by decide) (by decide)
    have h03 : s1 0 3 = σ 0 3 := hv_0.1
    have hN1 := pk_n s1
    refine hX 400 0 _ _ ?_
    have lp_18 : ∀ (_ : Unit), (s1 0 4 < s1 0 3 ∧ bkC (σ 1 (s1 0 4).toNat)) → X 18 [xvr 0, xvu, xvu, xvu] s1 := by
      intro _ hv_18
      refine hX 400 18 _ _ ?_
      intro v3 e3 l3 h3
      have e3 : v3 = s1 0 4 := e3
      intro z4 t4 e4 l4 h4
      try have w4 : t4 = 0 := by omega
      have hF := hF.p (j := 4) (v := z4) (by decide)
      exact ih_0 _ (show ((s1 0 3) - (z4)).toNat < m0 from by omega) (xput s1 0 4 z4) rfl ⟨hF, (show s1 0 3 = σ 0 3 ∧ s1 0 5 = σ 0 5 ∧ σ 0 4 ≤ z4 ∧ z4 ≤ s1 0 3 from by (and_intros <;> omega)), (fun i h1 h2 => by
                    have h2 : (i : Int) < z4 := h2
                    by_cases e : (i : Int) = s1 0 4
                    · rw [show i = (s1 0 4).toNat from by omega]; exact hv_18.2
                    · exact hB i h1 (by omega))⟩
    refine s_peek (σ := s1) (show 0 ≤ s1 0 4 ∧ s1 0 3 ≤ 940 from by (and_intros <;> omega)) (fun r6 p6 => ?_)
    replace p6 : r6 = pkf s1 ∧ -1 ≤ r6 ∧ r6 ≤ 255 := ⟨p6.1.trans (pkf_eq rfl rfl rfl), p6.2⟩
    refine And.intro (fun c7 => ?_) (fun c7 => ?_)
    · exact lp_18 () (by (have z := pk_v (s := s1) hp1 e1 h03 (by omega) (by omega) (by omega); exact ⟨(by omega), (by (rw [← z.2]; unfold bkC; omega))⟩))
    · refine s_peek (σ := s1) (show 0 ≤ s1 0 4 ∧ s1 0 3 ≤ 940 from by (and_intros <;> omega)) (fun r8 p8 => ?_)
      replace p8 : r8 = pkf s1 ∧ -1 ≤ r8 ∧ r8 ≤ 255 := ⟨p8.1.trans (pkf_eq rfl rfl rfl), p8.2⟩
      refine And.intro (fun c9 => ?_) (fun c9 => ?_)
      · have hSk : Sk (σ 1) (σ 0 3) (σ 0 4) (s1 0 4).toNat := ⟨by omega, by omega, fun i h1 h2 => hB i h1 (by omega), fun h => by have z := pk_w (s := s1) hp1 e1 h03 (by omega) (by omega); unfold bkC; omega⟩
        intro v10 e10 l10 h10
        have e10 : v10 = s1 0 4 := e10
        have hF := hF.p (j := 12) (v := v10) (by decide)
        have hF := hF.p (j := 13) (v := 0) (by decide)
        have lp_80 : ∀ (_ : Unit), (¬ (σ 0 5 < σ 0 3 ∧ σ 0 5 ≤ s1 0 4)) → X 80 [xvr 0, xvu, xvu, xvu] (xput (xput s1 0 12 v10) 0 13 0) := by
          intro _ hv_80
          refine hX 400 80 _ _ ?_
          refine s_peek (σ := (xput (xput s1 0 12 v10) 0 13 0)) (show 0 ≤ s1 0 4 ∧ s1 0 3 ≤ 940 from by (and_intros <;> omega)) (fun r14 p14 => ?_)
          replace p14 : r14 = pkf s1 ∧ -1 ≤ r14 ∧ r14 ≤ 255 := ⟨p14.1.trans (pkf_eq rfl rfl rfl), p14.2⟩
          refine And.intro (Nat.le_of_ble_eq_true rfl) ?_
          show xw _ _ _ _ _ _ _ _ _ _ [xvr 0, xvi r14, xvu, xvu] _ _
          refine And.intro (fun c15 => ?_) (fun c15 => ?_)
          · have lp_164 : ∀ (_ : Unit), (s1 0 4 < s1 0 3 ∧ pkf s1 = σ 1 (s1 0 4).toNat ∧ (97 ≤ σ 1 (s1 0 4).toNat ∧ σ 1 (s1 0 4).toNat ≤ 122 ∨ 48 ≤ σ 1 (s1 0 4).toNat ∧ σ 1 (s1 0 4).toNat ≤ 57)) → X 164 [xvr 0, xvi r14, xvu, xvu] (xput (xput s1 0 12 v10) 0 13 0) := by
              intro _ hv_164
              clear hN1 p6 c7 p8 c9 c15
              refine hX 400 164 _ _ ?_
              refine s_isSmall (σ := (xput (xput s1 0 12 v10) 0 13 0)) (c := r14)  (fun r17 p17 => ?_)
              have p17 : (r17 = 1 ∧ 97 ≤ r14 ∧ r14 ≤ 122) ∨ (r17 = 0 ∧ (r14 < 97 ∨ 122 < r14)) := p17
              refine And.intro (Nat.le_of_ble_eq_true rfl) ?_
              show xw _ _ _ _ _ _ _ _ _ _ [xvr 0, xvi r14, xvi r17, xvu] _ _
              have hsm : SM (σ 1) (s1 0 4).toNat r17 := by unfold SM smC dgC; omega
              have hsb : r17 = 0 ∨ r17 = 1 := by omega
              replace p17 : OPQ _ := p17
              have hS1 : OPQ _ := hv_164.2.2
              replace hv_164 : s1 0 4 < s1 0 3 ∧ pkf s1 = σ 1 (s1 0 4).toNat := ⟨hv_164.1, hv_164.2.1⟩
              refine And.intro (Nat.le_of_ble_eq_true rfl) ?_
              show xw _ _ _ _ _ _ _ _ _ _ [xvr 0, xvi r14, xvi r17, xvi 1] _ _
              have hF := hF.p (j := 17) (v := 0) (by decide)
              have hF := hF.p (j := 14) (v := 0) (by decide)
              have lp_181 : ∀ (m181 : Nat) (all : Int) (s2 : xS), ((s2 0 3 - s2 0 4).toNat) = m181 → (Fr [] [4, 11, 12, 13, 14, 17] σ s2 ∧ (s2 0 3 = σ 0 3 ∧ 0 ≤ s2 0 13 ∧ s2 0 4 = s1 0 4 + s2 0 13 ∧ s2 0 4 ≤ s2 0 3 ∧ s2 0 12 = s1 0 4 ∧ (all = 0 ∨ all = 1)) ∧ RQ (σ 1) (s1 0 4).toNat (s2 0 13).toNat all r17 (s2 0 17) (s2 0 14) ∧ (all = 0 → 0 < s2 0 13)) → X 181 [xvr 0, xvi r14, xvi r17, xvi all] s2 := by
                intro m181
                induction m181 using Nat.strongRecOn with
                | _ m181 ih_181 =>
                intro all s2 hm_181 hv_181
                obtain ⟨hF, hv_181, hQ2, hz2⟩ := hv_181
                have e2 : s2 1 = σ 1 := hF.1 1 (by decide) (by decide)
                have h203 : s2 0 3 = σ 0 3 := hv_181.1
                have hN2 := pk_n s2
                have hq0 : OPQ (s2 0 13 = 0 → s2 0 4 = s1 0 4) := fun h => by omega
                replace hz2 : OPQ _ := hz2
                refine hX 400 181 _ _ ?_
                have lp_201 : ∀ (_ : Unit), (s2 0 4 < s2 0 3 ∧ pkf s2 = σ 1 (s2 0 4).toNat ∧ (97 ≤ σ 1 (s2 0 4).toNat ∧ σ 1 (s2 0 4).toNat ≤ 122 ∨ 48 ≤ σ 1 (s2 0 4).toNat ∧ σ 1 (s2 0 4).toNat ≤ 57)) → X 201 [xvr 0, xvi r14, xvi r17, xvi all] s2 := by
                  intro _ hv_201
                  clear hN2
                  obtain ⟨hv_201, hpv, hS2⟩ := hv_201
                  have hx2 : 48 ≤ σ 1 (s2 0 4).toNat ∧ σ 1 (s2 0 4).toNat ≤ 122 := by omega
                  replace hS2 : OPQ _ := hS2
                  replace hpv : OPQ _ := hpv
                  have hr2 : 0 ≤ s2 0 13 ∧ s2 0 13 ≤ 940 ∧ 0 ≤ s2 0 4 ∧ s2 0 4 ≤ 940 := by and_intros <;> omega
                  have hr3 : s2 0 3 ≤ 940 := by omega
                  have hr4 : s2 0 4 = ((s1 0 4).toNat : Int) + s2 0 13 := by omega
                  have hr5 : s2 0 3 - s2 0 4 = (m181 : Int) := by omega
                  obtain ⟨hr6, hr7, hr8, hr9, hr10, hr11⟩ := hv_181
                  exact nx201 hX hr2 hr3 hpv hx2 (fun s' al' hF' h1 hWY hNY hal => by
                    obtain ⟨g1, g2⟩ := RQ.go hQ2 hsm hsb hr11 hr2.1 h1.2 hr4 (show (97 ≤ σ 1 (s2 0 4).toNat ∧ σ 1 (s2 0 4).toNat ≤ 122 ∨ 48 ≤ σ 1 (s2 0 4).toNat ∧ σ 1 (s2 0 4).toNat ≤ 57) from hS2) hWY hNY hal
                    have g3 : s' 0 3 = s2 0 3 := hF'.2 3 (by decide)
                    have g12 : s' 0 12 = s2 0 12 := hF'.2 12 (by decide)
                    have gF : Fr [] [4, 11, 12, 13, 14, 17] σ s' := hF.tr hF' (by decide) (by decide)
                    clear hF' hWY hNY hal hQ2 hS2 hpv
                    obtain ⟨h1, h2⟩ := h1
                    exact ih_181 _ (show (s' 0 3 - s' 0 4).toNat < m181 from by omega) al' s' rfl ⟨gF, ⟨by omega, by omega, by omega, by omega, by omega, g2⟩, g1, fun _ => by omega⟩)
                refine s_peek (σ := s2) (show 0 ≤ s2 0 4 ∧ s2 0 3 ≤ 940 from by (and_intros <;> omega)) (fun r95 p95 => ?_)
                replace p95 : r95 = pkf s2 ∧ -1 ≤ r95 ∧ r95 ≤ 255 := ⟨p95.1.trans (pkf_eq rfl rfl rfl), p95.2⟩
                refine s_isSmall (σ := s2) (c := r95)  (fun r96 p96 => ?_)
                have p96 : (r96 = 1 ∧ 97 ≤ r95 ∧ r95 ≤ 122) ∨ (r96 = 0 ∧ (r95 < 97 ∨ 122 < r95)) := p96
                refine And.intro (fun c97 => ?_) (fun c97 => ?_)
                · replace p96 : 97 ≤ r95 ∧ r95 ≤ 122 := by
                    rcases p96 with q | q
                    · exact q.2
                    · exact absurd q.1 (by omega)
                  exact lp_201 () (by (have z := pk_v (s := s2) hp1 e2 h203 (by omega) (by omega) (by omega); omega))
                · replace p96 : (r95 < 97 ∨ 122 < r95) := by
                    rcases p96 with q | q
                    · exact absurd q.1 (by omega)
                    · exact q.2
                  refine s_peek (σ := s2) (show 0 ≤ s2 0 4 ∧ s2 0 3 ≤ 940 from by (and_intros <;> omega)) (fun r98 p98 => ?_)
                  replace p98 : r98 = pkf s2 ∧ -1 ≤ r98 ∧ r98 ≤ 255 := ⟨p98.1.trans (pkf_eq rfl rfl rfl), p98.2⟩
                  refine s_isDigit (σ := s2) (c := r98)  (fun r99 p99 => ?_)
                  have p99 : (r99 = 1 ∧ 48 ≤ r98 ∧ r98 ≤ 57) ∨ (r99 = 0 ∧ (r98 < 48 ∨ 57 < r98)) := p99
                  refine And.intro (fun c100 => ?_) (fun c100 => ?_)
                  · replace p99 : (r98 < 48 ∨ 57 < r98) := by
                      rcases p99 with q | q
                      · exact absurd q.1 (by omega)
                      · exact q.2
                    have hk0 : 0 < (s2 0 13).toNat := by
                      by_cases e : s2 0 13 = 0
                      · exfalso
                        have hq1 : s2 0 13 = 0 → s2 0 4 = s1 0 4 := hq0
                        have e4 := hq1 e
                        clear hq1
                        have zS1 : (97 ≤ σ 1 (s1 0 4).toNat ∧ σ 1 (s1 0 4).toNat ≤ 122 ∨ 48 ≤ σ 1 (s1 0 4).toNat ∧ σ 1 (s1 0 4).toNat ≤ 57) := hS1
                        have ep : pkf s2 = pkf s1 := pkf_eq (e2.trans e1.symm) e4 (by omega)
                        omega
                      · omega
                    have hRn : Rn (σ 1) (σ 0 3) (s1 0 4).toNat (s2 0 13).toNat := ⟨by omega, hQ2.1, fun hlt => by
                        have e9 : (s1 0 4).toNat + (s2 0 13).toNat = (s2 0 4).toNat := by omega
                        have z := pk_w (s := s2) hp1 e2 h203 (by omega) (by omega)
                        rw [e9]; unfold alC smC dgC; omega⟩
                    clear p96 p99
                    refine And.intro (fun c101 => ?_) (fun c101 => ?_)
                    · have hF := hF.p (j := 11) (v := 4) (by decide)
                      refine And.intro rfl (And.intro rfl ?_)
                      exact hQ _ hF ⟨(show 0 ≤ s2 0 4 ∧ s2 0 4 ≤ σ 0 3 from by (and_intros <;> omega)), NXT.run (at' := s1 0 4) (k := (s2 0 13).toNat) hSk (by omega) hv_80 (show s1 0 4 < σ 0 3 from by omega) (show s2 0 12 = s1 0 4 from by omega) hk0 hRn (NXr.of hQ2 hsm hk0 (show (all = 0 ∧ 4 = 4) ∨ (all = 1 ∧ r17 = 1 ∧ (s2 0 13).toNat ≤ 7 ∧ 4 = 1) ∨ (all = 1 ∧ r17 = 0 ∧ (s2 0 13).toNat ≤ 3 ∧ 4 = 2) ∨ (all = 1 ∧ ((r17 = 1 ∧ 7 < (s2 0 13).toNat) ∨ (r17 = 0 ∧ 3 < (s2 0 13).toNat)) ∧ 4 = 4) from by (first | (refine Or.inl ?_; and_intros <;> omega) | (refine Or.inr (Or.inl ?_); and_intros <;> omega) | (refine Or.inr (Or.inr (Or.inl ?_)); and_intros <;> omega) | (refine Or.inr (Or.inr (Or.inr ?_)); and_intros <;> omega)))) (show s2 0 4 = s1 0 4 + ((s2 0 13).toNat : Int) from by omega)⟩
                    · intro v103 e103 l103 h103
                      have e103 : v103 = s2 0 13 := e103
                      refine And.intro (fun c104 => ?_) (fun c104 => ?_)
                      · replace p17 : (r14 < 97 ∨ 122 < r14) := by
                          rcases p17 with q | q
                          · exact absurd q.1 (by omega)
                          · exact q.2
                        refine And.intro (fun c105 => ?_) (fun c105 => ?_)
                        · refine And.intro (fun c106 => ?_) (fun c106 => ?_)
                          · have hF := hF.p (j := 11) (v := 2) (by decide)
                            refine And.intro rfl (And.intro rfl ?_)
                            exact hQ _ hF ⟨(show 0 ≤ s2 0 4 ∧ s2 0 4 ≤ σ 0 3 from by (and_intros <;> omega)), NXT.run (at' := s1 0 4) (k := (s2 0 13).toNat) hSk (by omega) hv_80 (show s1 0 4 < σ 0 3 from by omega) (show s2 0 12 = s1 0 4 from by omega) hk0 hRn (NXr.of hQ2 hsm hk0 (show (all = 0 ∧ 2 = 4) ∨ (all = 1 ∧ r17 = 1 ∧ (s2 0 13).toNat ≤ 7 ∧ 2 = 1) ∨ (all = 1 ∧ r17 = 0 ∧ (s2 0 13).toNat ≤ 3 ∧ 2 = 2) ∨ (all = 1 ∧ ((r17 = 1 ∧ 7 < (s2 0 13).toNat) ∨ (r17 = 0 ∧ 3 < (s2 0 13).toNat)) ∧ 2 = 4) from by (first | (refine Or.inl ?_; and_intros <;> omega) | (refine Or.inr (Or.inl ?_); and_intros <;> omega) | (refine Or.inr (Or.inr (Or.inl ?_)); and_intros <;> omega) | (refine Or.inr (Or.inr (Or.inr ?_)); and_intros <;> omega)))) (show s2 0 4 = s1 0 4 + ((s2 0 13).toNat : Int) from by omega)⟩
                          · have hF := hF.p (j := 11) (v := 1) (by decide)
                            refine And.intro rfl (And.intro rfl ?_)
                            exact hQ _ hF ⟨(show 0 ≤ s2 0 4 ∧ s2 0 4 ≤ σ 0 3 from by (and_intros <;> omega)), NXT.run (at' := s1 0 4) (k := (s2 0 13).toNat) hSk (by omega) hv_80 (show s1 0 4 < σ 0 3 from by omega) (show s2 0 12 = s1 0 4 from by omega) hk0 hRn (NXr.of hQ2 hsm hk0 (show (all = 0 ∧ 1 = 4) ∨ (all = 1 ∧ r17 = 1 ∧ (s2 0 13).toNat ≤ 7 ∧ 1 = 1) ∨ (all = 1 ∧ r17 = 0 ∧ (s2 0 13).toNat ≤ 3 ∧ 1 = 2) ∨ (all = 1 ∧ ((r17 = 1 ∧ 7 < (s2 0 13).toNat) ∨ (r17 = 0 ∧ 3 < (s2 0 13).toNat)) ∧ 1 = 4) from by (first | (refine Or.inl ?_; and_intros <;> omega) | (refine Or.inr (Or.inl ?_); and_intros <;> omega) | (refine Or.inr (Or.inr (Or.inl ?_)); and_intros <;> omega) | (refine Or.inr (Or.inr (Or.inr ?_)); and_intros <;> omega)))) (show s2 0 4 = s1 0 4 + ((s2 0 13).toNat : Int) from by omega)⟩
                        · have hF := hF.p (j := 11) (v := 4) (by decide)
                          refine And.intro rfl (And.intro rfl ?_)
                          exact hQ _ hF ⟨(show 0 ≤ s2 0 4 ∧ s2 0 4 ≤ σ 0 3 from by (and_intros <;> omega)), NXT.run (at' := s1 0 4) (k := (s2 0 13).toNat) hSk (by omega) hv_80 (show s1 0 4 < σ 0 3 from by omega) (show s2 0 12 = s1 0 4 from by omega) hk0 hRn (NXr.of hQ2 hsm hk0 (show (all = 0 ∧ 4 = 4) ∨ (all = 1 ∧ r17 = 1 ∧ (s2 0 13).toNat ≤ 7 ∧ 4 = 1) ∨ (all = 1 ∧ r17 = 0 ∧ (s2 0 13).toNat ≤ 3 ∧ 4 = 2) ∨ (all = 1 ∧ ((r17 = 1 ∧ 7 < (s2 0 13).toNat) ∨ (r17 = 0 ∧ 3 < (s2 0 13).toNat)) ∧ 4 = 4) from by (first | (refine Or.inl ?_; and_intros <;> omega) | (refine Or.inr (Or.inl ?_); and_intros <;> omega) | (refine Or.inr (Or.inr (Or.inl ?_)); and_intros <;> omega) | (refine Or.inr (Or.inr (Or.inr ?_)); and_intros <;> omega)))) (show s2 0 4 = s1 0 4 + ((s2 0 13).toNat : Int) from by omega)⟩
                      · replace p17 : 97 ≤ r14 ∧ r14 ≤ 122 := by
                          rcases p17 with q | q
                          · exact q.2
                          · exact absurd q.1 (by omega)
                        refine And.intro (fun c110 => ?_) (fun c110 => ?_)
                        · refine And.intro (fun c111 => ?_) (fun c111 => ?_)
                          · have hF := hF.p (j := 11) (v := 2) (by decide)
                            refine And.intro rfl (And.intro rfl ?_)
                            exact hQ _ hF ⟨(show 0 ≤ s2 0 4 ∧ s2 0 4 ≤ σ 0 3 from by (and_intros <;> omega)), NXT.run (at' := s1 0 4) (k := (s2 0 13).toNat) hSk (by omega) hv_80 (show s1 0 4 < σ 0 3 from by omega) (show s2 0 12 = s1 0 4 from by omega) hk0 hRn (NXr.of hQ2 hsm hk0 (show (all = 0 ∧ 2 = 4) ∨ (all = 1 ∧ r17 = 1 ∧ (s2 0 13).toNat ≤ 7 ∧ 2 = 1) ∨ (all = 1 ∧ r17 = 0 ∧ (s2 0 13).toNat ≤ 3 ∧ 2 = 2) ∨ (all = 1 ∧ ((r17 = 1 ∧ 7 < (s2 0 13).toNat) ∨ (r17 = 0 ∧ 3 < (s2 0 13).toNat)) ∧ 2 = 4) from by (first | (refine Or.inl ?_; and_intros <;> omega) | (refine Or.inr (Or.inl ?_); and_intros <;> omega) | (refine Or.inr (Or.inr (Or.inl ?_)); and_intros <;> omega) | (refine Or.inr (Or.inr (Or.inr ?_)); and_intros <;> omega)))) (show s2 0 4 = s1 0 4 + ((s2 0 13).toNat : Int) from by omega)⟩
                          · have hF := hF.p (j := 11) (v := 1) (by decide)
                            refine And.intro rfl (And.intro rfl ?_)
                            exact hQ _ hF ⟨(show 0 ≤ s2 0 4 ∧ s2 0 4 ≤ σ 0 3 from by (and_intros <;> omega)), NXT.run (at' := s1 0 4) (k := (s2 0 13).toNat) hSk (by omega) hv_80 (show s1 0 4 < σ 0 3 from by omega) (show s2 0 12 = s1 0 4 from by omega) hk0 hRn (NXr.of hQ2 hsm hk0 (show (all = 0 ∧ 1 = 4) ∨ (all = 1 ∧ r17 = 1 ∧ (s2 0 13).toNat ≤ 7 ∧ 1 = 1) ∨ (all = 1 ∧ r17 = 0 ∧ (s2 0 13).toNat ≤ 3 ∧ 1 = 2) ∨ (all = 1 ∧ ((r17 = 1 ∧ 7 < (s2 0 13).toNat) ∨ (r17 = 0 ∧ 3 < (s2 0 13).toNat)) ∧ 1 = 4) from by (first | (refine Or.inl ?_; and_intros <;> omega) | (refine Or.inr (Or.inl ?_); and_intros <;> omega) | (refine Or.inr (Or.inr (Or.inl ?_)); and_intros <;> omega) | (refine Or.inr (Or.inr (Or.inr ?_)); and_intros <;> omega)))) (show s2 0 4 = s1 0 4 + ((s2 0 13).toNat : Int) from by omega)⟩
                        · have hF := hF.p (j := 11) (v := 4) (by decide)
                          refine And.intro rfl (And.intro rfl ?_)
                          exact hQ _ hF ⟨(show 0 ≤ s2 0 4 ∧ s2 0 4 ≤ σ 0 3 from by (and_intros <;> omega)), NXT.run (at' := s1 0 4) (k := (s2 0 13).toNat) hSk (by omega) hv_80 (show s1 0 4 < σ 0 3 from by omega) (show s2 0 12 = s1 0 4 from by omega) hk0 hRn (NXr.of hQ2 hsm hk0 (show (all = 0 ∧ 4 = 4) ∨ (all = 1 ∧ r17 = 1 ∧ (s2 0 13).toNat ≤ 7 ∧ 4 = 1) ∨ (all = 1 ∧ r17 = 0 ∧ (s2 0 13).toNat ≤ 3 ∧ 4 = 2) ∨ (all = 1 ∧ ((r17 = 1 ∧ 7 < (s2 0 13).toNat) ∨ (r17 = 0 ∧ 3 < (s2 0 13).toNat)) ∧ 4 = 4) from by (first | (refine Or.inl ?_; and_intros <;> omega) | (refine Or.inr (Or.inl ?_); and_intros <;> omega) | (refine Or.inr (Or.inr (Or.inl ?_)); and_intros <;> omega) | (refine Or.inr (Or.inr (Or.inr ?_)); and_intros <;> omega)))) (show s2 0 4 = s1 0 4 + ((s2 0 13).toNat : Int) from by omega)⟩
                  · replace p99 : 48 ≤ r98 ∧ r98 ≤ 57 := by
                      rcases p99 with q | q
                      · exact q.2
                      · exact absurd q.1 (by omega)
                    exact lp_201 () (by (have z := pk_v (s := s2) hp1 e2 h203 (by omega) (by omega) (by omega); omega))
              exact lp_181 _ 1 (xput (xput (xput (xput s1 0 12 v10) 0 13 0) 0 17 0) 0 14 0) rfl ⟨hF, (show s1 0 3 = σ 0 3 ∧ (0 : Int) ≤ 0 ∧ s1 0 4 = s1 0 4 + 0 ∧ s1 0 4 ≤ s1 0 3 ∧ v10 = s1 0 4 ∧ ((1 : Int) = 0 ∨ (1 : Int) = 1) from by (and_intros <;> omega)), RQ.z, fun h => absurd h (by decide)⟩
            refine s_isSmall (σ := (xput (xput s1 0 12 v10) 0 13 0)) (c := r14)  (fun r115 p115 => ?_)
            have p115 : (r115 = 1 ∧ 97 ≤ r14 ∧ r14 ≤ 122) ∨ (r115 = 0 ∧ (r14 < 97 ∨ 122 < r14)) := p115
            refine And.intro (fun c116 => ?_) (fun c116 => ?_)
            · replace p115 : 97 ≤ r14 ∧ r14 ≤ 122 := by
                rcases p115 with q | q
                · exact q.2
                · exact absurd q.1 (by omega)
              exact lp_164 () (by (have z := pk_v (s := s1) hp1 e1 h03 (by omega) (by omega) (by omega); omega))
            · replace p115 : (r14 < 97 ∨ 122 < r14) := by
                rcases p115 with q | q
                · exact absurd q.1 (by omega)
                · exact q.2
              refine s_isDigit (σ := (xput (xput s1 0 12 v10) 0 13 0)) (c := r14)  (fun r117 p117 => ?_)
              have p117 : (r117 = 1 ∧ 48 ≤ r14 ∧ r14 ≤ 57) ∨ (r117 = 0 ∧ (r14 < 48 ∨ 57 < r14)) := p117
              refine And.intro (fun c118 => ?_) (fun c118 => ?_)
              · replace p117 : 48 ≤ r14 ∧ r14 ≤ 57 := by
                  rcases p117 with q | q
                  · exact q.2
                  · exact absurd q.1 (by omega)
                exact lp_164 () (by (have z := pk_v (s := s1) hp1 e1 h03 (by omega) (by omega) (by omega); omega))
              · replace p117 : (r14 < 48 ∨ 57 < r14) := by
                  rcases p117 with q | q
                  · exact absurd q.1 (by omega)
                  · exact q.2
                refine And.intro (fun c119 => ?_) (fun c119 => ?_)
                · have hF := hF.p (j := 11) (v := 3) (by decide)
                  have hF := hF.p (j := 14) (v := r14) (by decide)
                  intro v122 e122 l122 h122
                  have e122 : v122 = s1 0 4 := e122
                  intro z123 t123 e123 l123 h123
                  try have w123 : t123 = 0 := by omega
                  have hF := hF.p (j := 4) (v := z123) (by decide)
                  refine And.intro rfl (And.intro rfl ?_)
                  have zW := pk_w (s := s1) hp1 e1 h03 (by omega) (by omega)
                  exact hQ _ hF ⟨(show 0 ≤ z123 ∧ z123 ≤ σ 0 3 from by (and_intros <;> omega)), NXT.one (at' := s1 0 4) (c := σ 1 (s1 0 4).toNat) hSk (by omega) hv_80 (show s1 0 4 < σ 0 3 from by omega) (show v10 = s1 0 4 from by omega) rfl (by unfold alC smC dgC; omega) (show (sgC (σ 1 (s1 0 4).toNat) ∧ 3 = 3 ∧ r14 = σ 1 (s1 0 4).toNat) ∨ (¬ sgC (σ 1 (s1 0 4).toNat) ∧ 3 = 4) from Or.inl ⟨(by unfold sgC; omega), (by omega), (by omega)⟩) (show z123 = s1 0 4 + 1 from by omega)⟩
                · refine And.intro (fun c125 => ?_) (fun c125 => ?_)
                  · have hF := hF.p (j := 11) (v := 3) (by decide)
                    have hF := hF.p (j := 14) (v := r14) (by decide)
                    intro v128 e128 l128 h128
                    have e128 : v128 = s1 0 4 := e128
                    intro z129 t129 e129 l129 h129
                    try have w129 : t129 = 0 := by omega
                    have hF := hF.p (j := 4) (v := z129) (by decide)
                    refine And.intro rfl (And.intro rfl ?_)
                    have zW := pk_w (s := s1) hp1 e1 h03 (by omega) (by omega)
                    exact hQ _ hF ⟨(show 0 ≤ z129 ∧ z129 ≤ σ 0 3 from by (and_intros <;> omega)), NXT.one (at' := s1 0 4) (c := σ 1 (s1 0 4).toNat) hSk (by omega) hv_80 (show s1 0 4 < σ 0 3 from by omega) (show v10 = s1 0 4 from by omega) rfl (by unfold alC smC dgC; omega) (show (sgC (σ 1 (s1 0 4).toNat) ∧ 3 = 3 ∧ r14 = σ 1 (s1 0 4).toNat) ∨ (¬ sgC (σ 1 (s1 0 4).toNat) ∧ 3 = 4) from Or.inl ⟨(by unfold sgC; omega), (by omega), (by omega)⟩) (show z129 = s1 0 4 + 1 from by omega)⟩
                  · refine And.intro (fun c131 => ?_) (fun c131 => ?_)
                    · have hF := hF.p (j := 11) (v := 3) (by decide)
                      have hF := hF.p (j := 14) (v := r14) (by decide)
                      intro v134 e134 l134 h134
                      have e134 : v134 = s1 0 4 := e134
                      intro z135 t135 e135 l135 h135
                      try have w135 : t135 = 0 := by omega
                      have hF := hF.p (j := 4) (v := z135) (by decide)
                      refine And.intro rfl (And.intro rfl ?_)
                      have zW := pk_w (s := s1) hp1 e1 h03 (by omega) (by omega)
                      exact hQ _ hF ⟨(show 0 ≤ z135 ∧ z135 ≤ σ 0 3 from by (and_intros <;> omega)), NXT.one (at' := s1 0 4) (c := σ 1 (s1 0 4).toNat) hSk (by omega) hv_80 (show s1 0 4 < σ 0 3 from by omega) (show v10 = s1 0 4 from by omega) rfl (by unfold alC smC dgC; omega) (show (sgC (σ 1 (s1 0 4).toNat) ∧ 3 = 3 ∧ r14 = σ 1 (s1 0 4).toNat) ∨ (¬ sgC (σ 1 (s1 0 4).toNat) ∧ 3 = 4) from Or.inl ⟨(by unfold sgC; omega), (by omega), (by omega)⟩) (show z135 = s1 0 4 + 1 from by omega)⟩
                    · refine And.intro (fun c137 => ?_) (fun c137 => ?_)
                      · have hF := hF.p (j := 11) (v := 4) (by decide)
                        have hF := hF.p (j := 14) (v := r14) (by decide)
                        intro v140 e140 l140 h140
                        have e140 : v140 = s1 0 4 := e140
                        intro z141 t141 e141 l141 h141
                        try have w141 : t141 = 0 := by omega
                        have hF := hF.p (j := 4) (v := z141) (by decide)
                        refine And.intro rfl (And.intro rfl ?_)
                        have zW := pk_w (s := s1) hp1 e1 h03 (by omega) (by omega)
                        exact hQ _ hF ⟨(show 0 ≤ z141 ∧ z141 ≤ σ 0 3 from by (and_intros <;> omega)), NXT.one (at' := s1 0 4) (c := σ 1 (s1 0 4).toNat) hSk (by omega) hv_80 (show s1 0 4 < σ 0 3 from by omega) (show v10 = s1 0 4 from by omega) rfl (by unfold alC smC dgC; omega) (show (sgC (σ 1 (s1 0 4).toNat) ∧ 4 = 3 ∧ r14 = σ 1 (s1 0 4).toNat) ∨ (¬ sgC (σ 1 (s1 0 4).toNat) ∧ 4 = 4) from Or.inr ⟨(by unfold sgC; omega), (by omega)⟩) (show z141 = s1 0 4 + 1 from by omega)⟩
                      · refine And.intro (fun c143 => ?_) (fun c143 => ?_)
                        · have hF := hF.p (j := 11) (v := 4) (by decide)
                          have hF := hF.p (j := 14) (v := r14) (by decide)
                          intro v146 e146 l146 h146
                          have e146 : v146 = s1 0 4 := e146
                          intro z147 t147 e147 l147 h147
                          try have w147 : t147 = 0 := by omega
                          have hF := hF.p (j := 4) (v := z147) (by decide)
                          refine And.intro rfl (And.intro rfl ?_)
                          have zW := pk_w (s := s1) hp1 e1 h03 (by omega) (by omega)
                          exact hQ _ hF ⟨(show 0 ≤ z147 ∧ z147 ≤ σ 0 3 from by (and_intros <;> omega)), NXT.one (at' := s1 0 4) (c := σ 1 (s1 0 4).toNat) hSk (by omega) hv_80 (show s1 0 4 < σ 0 3 from by omega) (show v10 = s1 0 4 from by omega) rfl (by unfold alC smC dgC; omega) (show (sgC (σ 1 (s1 0 4).toNat) ∧ 4 = 3 ∧ r14 = σ 1 (s1 0 4).toNat) ∨ (¬ sgC (σ 1 (s1 0 4).toNat) ∧ 4 = 4) from Or.inr ⟨(by unfold sgC; omega), (by omega)⟩) (show z147 = s1 0 4 + 1 from by omega)⟩
                        · have hF := hF.p (j := 11) (v := 3) (by decide)
                          have hF := hF.p (j := 14) (v := r14) (by decide)
                          intro v151 e151 l151 h151
                          have e151 : v151 = s1 0 4 := e151
                          intro z152 t152 e152 l152 h152
                          try have w152 : t152 = 0 := by omega
                          have hF := hF.p (j := 4) (v := z152) (by decide)
                          refine And.intro rfl (And.intro rfl ?_)
                          have zW := pk_w (s := s1) hp1 e1 h03 (by omega) (by omega)
                          exact hQ _ hF ⟨(show 0 ≤ z152 ∧ z152 ≤ σ 0 3 from by (and_intros <;> omega)), NXT.one (at' := s1 0 4) (c := σ 1 (s1 0 4).toNat) hSk (by omega) hv_80 (show s1 0 4 < σ 0 3 from by omega) (show v10 = s1 0 4 from by omega) rfl (by unfold alC smC dgC; omega) (show (sgC (σ 1 (s1 0 4).toNat) ∧ 3 = 3 ∧ r14 = σ 1 (s1 0 4).toNat) ∨ (¬ sgC (σ 1 (s1 0 4).toNat) ∧ 3 = 4) from Or.inl ⟨(by unfold sgC; omega), (by omega), (by omega)⟩) (show z152 = s1 0 4 + 1 from by omega)⟩
          · have hF := hF.p (j := 11) (v := 0) (by decide)
            refine And.intro rfl (And.intro rfl ?_)
            exact hQ _ hF ⟨(show 0 ≤ s1 0 4 ∧ s1 0 4 ≤ σ 0 3 from by (and_intros <;> omega)), NXT.stop (at' := s1 0 4) hSk (by omega) hv_80 (show σ 0 3 ≤ s1 0 4 from by have z := pkf_r s1; omega) (show v10 = s1 0 4 from by omega) rfl rfl⟩
        intro v155 e155 l155 h155
        have e155 : v155 = s1 0 3 := e155
        intro v156 e156 l156 h156
        have e156 : v156 = s1 0 5 := e156
        refine And.intro (fun c157 => ?_) (fun c157 => ?_)
        · exact lp_80 () (show ¬ (σ 0 5 < σ 0 3 ∧ σ 0 5 ≤ s1 0 4) from by first | trivial | omega | (refine ⟨by assumption, ?_⟩; omega) | (refine ⟨?_, ?_⟩ <;> omega))
        · intro v158 e158 l158 h158
          have e158 : v158 = s1 0 4 := e158
          intro v159 e159 l159 h159
          have e159 : v159 = s1 0 5 := e159
          refine And.intro (fun c160 => ?_) (fun c160 => ?_)
          · exact lp_80 () (show ¬ (σ 0 5 < σ 0 3 ∧ σ 0 5 ≤ s1 0 4) from by first | trivial | omega | (refine ⟨by assumption, ?_⟩; omega) | (refine ⟨?_, ?_⟩ <;> omega))
          · intro v161 e161 l161 h161
            have e161 : v161 = s1 0 5 := e161
            have hF := hF.p (j := 12) (v := v161) (by decide)
            have hF := hF.p (j := 11) (v := 4) (by decide)
            refine And.intro rfl (And.intro rfl ?_)
            exact hQ _ hF ⟨(show 0 ≤ s1 0 4 ∧ s1 0 4 ≤ σ 0 3 from by (and_intros <;> omega)), NXT.far (at' := s1 0 4) hSk (by omega) (show σ 0 5 < σ 0 3 from by omega) (show σ 0 5 ≤ s1 0 4 from by omega) (show v161 = σ 0 5 from by omega) rfl rfl⟩
      · exact lp_18 () (by (have z := pk_v (s := s1) hp1 e1 h03 (by omega) (by omega) (by omega); exact ⟨(by omega), (by (rw [← z.2]; unfold bkC; omega))⟩))
  exact lp_0 _ σ rfl ⟨hF, by omega, fun i h1 h2 => by omega⟩

