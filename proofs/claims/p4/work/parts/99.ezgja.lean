/-! The reference's next: how a run goes on. -/
def OPQ (p : Prop) : Prop := p
theorem RQ.al0 {small pk c r : Int} (hs : small = 0 ∨ small = 1) (p : (r = 1 ∧ 97 ≤ pk ∧ pk ≤ 122) ∨ (r = 0 ∧ (pk < 97 ∨ 122 < pk))) (hpk : pk = c) (hc : 97 ≤ c ∧ c ≤ 122 ∨ 48 ≤ c ∧ c ≤ 57) (h : ¬ small = r) : (small = 1 ∧ dgC c) ∨ (small = 0 ∧ smC c) := by
  unfold dgC smC; omega
theorem RQ.al1 {small pk c r : Int} (hs : small = 0 ∨ small = 1) (p : (r = 1 ∧ 97 ≤ pk ∧ pk ≤ 122) ∨ (r = 0 ∧ (pk < 97 ∨ 122 < pk))) (hpk : pk = c) (hc : 97 ≤ c ∧ c ≤ 122 ∨ 48 ≤ c ∧ c ≤ 57) (h : small = r) : (small = 1 ∧ smC c) ∨ (small = 0 ∧ dgC c) := by
  unfold dgC smC; omega
set_option maxHeartbeats 4000000 in
set_option maxRecDepth 100000 in
theorem s_nextF {σ : xS} {Q : Option xV → xS → Prop} (hp0 : 0 ≤ σ 0 4 ∧ σ 0 4 ≤ σ 0 3 ∧ σ 0 3 ≤ 940) (hp1 : BYx (σ 1) (σ 0 3)) (hQ : ∀ σ' : xS, Fr [] [4, 11, 12, 13, 14, 17] σ σ' → ((0 ≤ σ' 0 4 ∧ σ' 0 4 ≤ σ 0 3) ∧ NXT (σ 1) (σ 0 3) (σ 0 5) (σ 0 4) (σ' 0 11) (σ' 0 14) (σ' 0 17) (σ' 0 12) (σ' 0 4)) → Q none σ') : xT kX11_next [xvr 0] σ Q := by
  refine ⟨Nat.le_of_ble_eq_true rfl, fun X hX => ?_⟩
  show X 0 [xvr 0, xvu, xvu, xvu] σ
  have hF : Fr [] [4, 11, 12, 13, 14, 17] σ σ := Fr.rf
  
  have lp_0 : ∀ (m0 : Nat) (s1 : xS), ((s1 0 3 - s1 0 4).toNat) = m0 → (Fr [] [4, 11, 12, 13, 14, 17] σ s1 ∧ (s1 0 3 = σ 0 3 ∧ s1 0 5 = σ 0 5 ∧ σ 0 4 ≤ s1 0 4 ∧ s1 0 4 ≤ s1 0 3) ∧ ∀ i : Nat, σ 0 4 ≤ i → (i : Int) < s1 0 4 → bkC (σ 1 i)) → X 0 [xvr 0, xvu, xvu, xvu] s1 := by
    intro m0
    induction m0 using Nat.strongRecOn with
    | _ m0 ih_0 =>
    intro s1 hm_0 hv_0
    obtain ⟨hF, hv_0, hB⟩ := hv_0
    have e1 : s1 1 = σ 1 := hF.1 1 (by decide) (by decide)
    have h03 : s1 0 3 = σ 0 3 := hv_0.1
    have hN1 := pk_n s1
    refine hX 400 0 _ _ ?_
    have lp_18 : ∀ (_ : Unit), (s1 0 4 < s1 0 3 ∧ bkC (σ 1 (s1 0 4).toNat)) → X 18 [xvr 0, xvu, xvu, xvu] s1 := by
      intro _ hv_18
      refine hX 400 18 _ _ ?_
      intro v3 e3 l3 h3
      have e3 : v3 = s1 0 4 := e3
      intro z4 t4 e4 l4 h4
      try have w4 : t4 = 0 := by omega
      have hF := hF.p (j := 4) (v := z4) (by decide)
      exact ih_0 _ (show ((s1 0 3) - (z4)).toNat < m0 from by omega) (xput s1 0 4 z4) rfl ⟨hF, (show s1 0 3 = σ 0 3 ∧ s1 0 5 = σ 0 5 ∧ σ 0 4 ≤ z4 ∧ z4 ≤ s1 0 3 from by (and_intros <;> omega)), (fun i h1 h2 => by
                    have h2 : (i : Int) < z4 := h2
                    by_cases e : (i : Int) = s1 0 4
                    · rw [show i = (s1 0 4).toNat from by omega]; exact hv_18.2
                    · exact hB i h1 (by omega))⟩
    refine s_peek (σ := s1) (show 0 ≤ s1 0 4 ∧ s1 0 3 ≤ 940 from by (and_intros <;> omega)) (fun r6 p6 => ?_)
    replace p6 : r6 = pkf s1 ∧ -1 ≤ r6 ∧ r6 ≤ 255 := ⟨p6.1.trans (pkf_eq rfl rfl rfl), p6.2⟩
    refine And.intro (fun c7 => ?_) (fun c7 => ?_)
    · exact lp_18 () (by (have z := pk_v (s := s1) hp1 e1 h03 (by omega) (by omega) (by omega); exact ⟨(by omega), (by (rw [← z.2]; unfold bkC; omega))⟩))
    · refine s_peek (σ := s1) (show 0 ≤ s1 0 4 ∧ s1 0 3 ≤ 940 from by (and_intros <;> omega)) (fun r8 p8 => ?_)
      replace p8 : r8 = pkf s1 ∧ -1 ≤ r8 ∧ r8 ≤ 255 := ⟨p8.1.trans (pkf_eq rfl rfl rfl), p8.2⟩
      refine And.intro (fun c9 => ?_) (fun c9 => ?_)
      · have hSk : Sk (σ 1) (σ 0 3) (σ 0 4) (s1 0 4).toNat := ⟨by omega, by omega, fun i h1 h2 => hB i h1 (by omega), fun h => by have z := pk_w (s := s1) hp1 e1 h03 (by omega) (by omega); unfold bkC; omega⟩
        intro v10 e10 l10 h10
        have e10 : v10 = s1 0 4 := e10
        have hF := hF.p (j := 12) (v := v10) (by decide)
        have hF := hF.p (j := 13) (v := 0) (by decide)
        have lp_80 : ∀ (_ : Unit), (¬ (σ 0 5 < σ 0 3 ∧ σ 0 5 ≤ s1 0 4)) → X 80 [xvr 0, xvu, xvu, xvu] (xput (xput s1 0 12 v10) 0 13 0) := by
          intro _ hv_80
          refine hX 400 80 _ _ ?_
          refine s_peek (σ := (xput (xput s1 0 12 v10) 0 13 0)) (show 0 ≤ s1 0 4 ∧ s1 0 3 ≤ 940 from by (and_intros <;> omega)) (fun r14 p14 => ?_)
          replace p14 : r14 = pkf s1 ∧ -1 ≤ r14 ∧ r14 ≤ 255 := ⟨p14.1.trans (pkf_eq rfl rfl rfl), p14.2⟩
          refine And.intro (Nat.le_of_ble_eq_true rfl) ?_
          show xw _ _ _ _ _ _ _ _ _ _ [xvr 0, xvi r14, xvu, xvu] _ _
          refine And.intro (fun c15 => ?_) (fun c15 => ?_)
          · have lp_164 : ∀ (_ : Unit), (s1 0 4 < s1 0 3 ∧ pkf s1 = σ 1 (s1 0 4).toNat ∧ (97 ≤ σ 1 (s1 0 4).toNat ∧ σ 1 (s1 0 4).toNat ≤ 122 ∨ 48 ≤ σ 1 (s1 0 4).toNat ∧ σ 1 (s1 0 4).toNat ≤ 57)) → X 164 [xvr 0, xvi r14, xvu, xvu] (xput (xput s1 0 12 v10) 0 13 0) := by
              intro _ hv_164
              clear hN1 p6 c7 p8 c9 c15
              refine hX 400 164 _ _ ?_
              refine s_isSmall (σ := (xput (xput s1 0 12 v10) 0 13 0)) (c := r14)  (fun r17 p17 => ?_)
              have p17 : (r17 = 1 ∧ 97 ≤ r14 ∧ r14 ≤ 122) ∨ (r17 = 0 ∧ (r14 < 97 ∨ 122 < r14)) := p17
              refine And.intro (Nat.le_of_ble_eq_true rfl) ?_
              show xw _ _ _ _ _ _ _ _ _ _ [xvr 0, xvi r14, xvi r17, xvu] _ _
              have hsm : SM (σ 1) (s1 0 4).toNat r17 := by unfold SM smC dgC; omega
              have hsb : r17 = 0 ∨ r17 = 1 := by omega
              replace p17 : OPQ _ := p17
              have hS1 : OPQ _ := hv_164.2.2
              replace hv_164 : s1 0 4 < s1 0 3 ∧ pkf s1 = σ 1 (s1 0 4).toNat := ⟨hv_164.1, hv_164.2.1⟩
              refine And.intro (Nat.le_of_ble_eq_true rfl) ?_
              show xw _ _ _ _ _ _ _ _ _ _ [xvr 0, xvi r14, xvi r17, xvi 1] _ _
              have hF := hF.p (j := 17) (v := 0) (by decide)
              have hF := hF.p (j := 14) (v := 0) (by decide)
              have lp_181 : ∀ (m181 : Nat) (all : Int) (s2 : xS), ((s2 0 3 - s2 0 4).toNat) = m181 → (Fr [] [4, 11, 12, 13, 14, 17] σ s2 ∧ (s2 0 3 = σ 0 3 ∧ 0 ≤ s2 0 13 ∧ s2 0 4 = s1 0 4 + s2 0 13 ∧ s2 0 4 ≤ s2 0 3 ∧ s2 0 12 = s1 0 4 ∧ (all = 0 ∨ all = 1)) ∧ RQ (σ 1) (s1 0 4).toNat (s2 0 13).toNat all r17 (s2 0 17) (s2 0 14) ∧ (all = 0 → 0 < s2 0 13)) → X 181 [xvr 0, xvi r14, xvi r17, xvi all] s2 := by
                intro m181
                induction m181 using Nat.strongRecOn with
                | _ m181 ih_181 =>
                intro all s2 hm_181 hv_181
                obtain ⟨hF, hv_181, hQ2, hz2⟩ := hv_181
                have e2 : s2 1 = σ 1 := hF.1 1 (by decide) (by decide)
                have h203 : s2 0 3 = σ 0 3 := hv_181.1
                have hN2 := pk_n s2
                have hq0 : OPQ (s2 0 13 = 0 → s2 0 4 = s1 0 4) := fun h => by omega
                replace hz2 : OPQ _ := hz2
                refine hX 400 181 _ _ ?_
                have lp_201 : ∀ (_ : Unit), (s2 0 4 < s2 0 3 ∧ pkf s2 = σ 1 (s2 0 4).toNat ∧ (97 ≤ σ 1 (s2 0 4).toNat ∧ σ 1 (s2 0 4).toNat ≤ 122 ∨ 48 ≤ σ 1 (s2 0 4).toNat ∧ σ 1 (s2 0 4).toNat ≤ 57)) → X 201 [xvr 0, xvi r14, xvi r17, xvi all] s2 := by
                  intro _ hv_201
                  clear hN2
                  obtain ⟨hv_201, hpv, hS2⟩ := hv_201
                  have hx2 : 48 ≤ σ 1 (s2 0 4).toNat ∧ σ 1 (s2 0 4).toNat ≤ 122 := by omega
                  replace hS2 : OPQ _ := hS2
                  refine hX 400 201 _ _ ?_
                  refine And.intro (fun c22 => ?_) (fun c22 => ?_)
                  · refine hX 400 220 _ _ ?_
                    refine And.intro (Nat.le_of_ble_eq_true rfl) ?_
                    show xw _ _ _ _ _ _ _ _ _ _ [xvr 0, xvi r14, xvi r17, xvi 0] _ _
                    have lp_248 : ∀ (s6 : xS), (Fr [] [4, 11, 12, 13, 14, 17] σ s6 ∧ (s6 0 3 = σ 0 3 ∧ s6 0 4 = s2 0 4 ∧ s6 0 13 = s2 0 13 ∧ s6 0 14 = s2 0 14 ∧ s6 0 12 = s2 0 12) ∧ WY (s2 0 13) (s2 0 17) (s6 0 17) (σ 1 (s2 0 4).toNat)) → X 248 [xvr 0, xvi r14, xvi r17, xvi 0] s6 := by
                      intro s6 hv_248
                      obtain ⟨hF, hv_248, hWY⟩ := hv_248
                      have hpk6 : pkf s6 = pkf s2 := pkf_eq ((hF.1 1 (by decide) (by decide)).trans e2.symm) hv_248.2.1 (by omega)
                      refine hX 400 248 _ _ ?_
                      have lp_275 : ∀ (s7 : xS), (Fr [] [4, 11, 12, 13, 14, 17] σ s7 ∧ (s7 0 3 = σ 0 3 ∧ s7 0 4 = s2 0 4 ∧ s7 0 13 = s2 0 13 ∧ s7 0 17 = s6 0 17 ∧ s7 0 12 = s2 0 12) ∧ NY (s2 0 13) (s2 0 14) (s7 0 14) (σ 1 (s2 0 4).toNat)) → X 275 [xvr 0, xvi r14, xvi r17, xvi 0] s7 := by
                        intro s7 hv_275
                        obtain ⟨hF, hv_275, hNY⟩ := hv_275
                        have hw7 : s7 0 17 = s6 0 17 := hv_275.2.2.2.1
                        refine hX 400 275 _ _ ?_
                        intro v25 e25 l25 h25
                        have e25 : v25 = s7 0 13 := e25
                        intro z26 t26 e26 l26 h26
                        try have w26 : t26 = 0 := by omega
                        have hF := hF.p (j := 13) (v := z26) (by decide)
                        intro v28 e28 l28 h28
                        have e28 : v28 = s7 0 4 := e28
                        intro z29 t29 e29 l29 h29
                        try have w29 : t29 = 0 := by omega
                        have hF := hF.p (j := 4) (v := z29) (by decide)
                        exact ih_181 _ (show ((s7 0 3) - (z29)).toNat < m181 from by omega) 0 (xput (xput s7 0 13 z26) 0 4 z29) rfl ⟨hF, (show s7 0 3 = σ 0 3 ∧ 0 ≤ z26 ∧ z29 = s1 0 4 + z26 ∧ z29 ≤ s7 0 3 ∧ s7 0 12 = s1 0 4 ∧ (0 = 0 ∨ 0 = 1) from by (and_intros <;> omega)), (by
                                      have e9 : (z26).toNat = (s2 0 13).toNat + 1 := by omega
                                      have h9 := RQ.step (all' := 0) (c := σ 1 (s2 0 4).toNat) (sp := s2 0 13) (w' := s7 0 17) (n' := s7 0 14) hQ2 hsm (by rw [show (s1 0 4).toNat + (s2 0 13).toNat = (s2 0 4).toNat from by omega]) (by omega) (Or.inr ⟨rfl, Or.inl (by omega)⟩) (by have zS2 : (97 ≤ σ 1 (s2 0 4).toNat ∧ σ 1 (s2 0 4).toNat ≤ 122 ∨ 48 ≤ σ 1 (s2 0 4).toNat ∧ σ 1 (s2 0 4).toNat ≤ 57) := hS2; unfold alC smC dgC; omega) (by rw [hw7]; exact hWY) hNY
                                      rw [← e9] at h9; exact h9), fun _ => (show 0 < z26 from by omega)⟩
                      intro v31 e31 l31 h31
                      have e31 : v31 = s6 0 13 := e31
                      refine And.intro (fun c32 => ?_) (fun c32 => ?_)
                      · exact lp_275 s6 ⟨hF, (show s6 0 3 = σ 0 3 ∧ s6 0 4 = s2 0 4 ∧ s6 0 13 = s2 0 13 ∧ s6 0 17 = s6 0 17 ∧ s6 0 12 = s2 0 12 from by (and_intros <;> omega)), fun h1 => absurd h1 (by omega)⟩
                      · intro v33 e33 l33 h33
                        have e33 : v33 = s6 0 14 := e33
                        -- m
                        intro z34 t34 e34 l34 h34
                        try have w34 : t34 = 0 := by omega
                        refine s_peek (σ := s6) (show 0 ≤ s6 0 4 ∧ s6 0 3 ≤ 940 from by (and_intros <;> omega)) (fun r35 p35 => ?_)
                        replace p35 : r35 = pkf s6 ∧ -1 ≤ r35 ∧ r35 ≤ 255 := ⟨p35.1.trans (pkf_eq rfl rfl rfl), p35.2⟩
                        -- a
                        intro z36 t36 e36 l36 h36
                        try have w36 : t36 = 0 := by omega
                        -- s
                        intro z37 t37 e37 l37 h37
                        try have w37 : t37 = 0 := by omega
                        have hF := hF.p (j := 14) (v := z37) (by decide)
                        exact lp_275 (xput s6 0 14 z37) ⟨hF, (show s6 0 3 = σ 0 3 ∧ s6 0 4 = s2 0 4 ∧ s6 0 13 = s2 0 13 ∧ s6 0 17 = s6 0 17 ∧ s6 0 12 = s2 0 12 from by (and_intros <;> omega)), (fun h1 h2 h3 => by (have w1 : t34 = 0 := (by omega); have w2 : t36 = 0 := (by omega); have w3 : t37 = 0 := (by omega); show z37 = _; omega))⟩
                    intro v39 e39 l39 h39
                    have e39 : v39 = s2 0 13 := e39
                    refine And.intro (fun c40 => ?_) (fun c40 => ?_)
                    · exact lp_248 s2 ⟨hF, (show s2 0 3 = σ 0 3 ∧ s2 0 4 = s2 0 4 ∧ s2 0 13 = s2 0 13 ∧ s2 0 14 = s2 0 14 ∧ s2 0 12 = s2 0 12 from by (and_intros <;> omega)), fun h1 => absurd h1 (by omega)⟩
                    · intro v41 e41 l41 h41
                      have e41 : v41 = s2 0 17 := e41
                      -- shl
                      intro z42 e42 l42 h42
                      replace e42 : OPQ _ := e42
                      refine s_peek (σ := s2) (show 0 ≤ s2 0 4 ∧ s2 0 3 ≤ 940 from by (and_intros <;> omega)) (fun r43 p43 => ?_)
                      replace p43 : r43 = pkf s2 ∧ -1 ≤ r43 ∧ r43 ≤ 255 := ⟨p43.1.trans (pkf_eq rfl rfl rfl), p43.2⟩
                      -- or
                      intro z44 e44 l44 h44
                      replace e44 : OPQ _ := e44
                      have hF := hF.p (j := 17) (v := z44) (by decide)
                      exact lp_248 (xput s2 0 17 z44) ⟨hF, (show s2 0 3 = σ 0 3 ∧ s2 0 4 = s2 0 4 ∧ s2 0 13 = s2 0 13 ∧ s2 0 14 = s2 0 14 ∧ s2 0 12 = s2 0 12 from by (and_intros <;> omega)), fun h1 h2 h3 => xlor8 (w := s2 0 17) (c := σ 1 (s2 0 4).toNat) h2 h3 (by omega) (by omega) (by rw [show s2 0 17 = v41 from by omega]; exact e42) (by rw [show σ 1 (s2 0 4).toNat = r43 from by omega]; exact e44)⟩
                  · refine s_peek (σ := s2) (show 0 ≤ s2 0 4 ∧ s2 0 3 ≤ 940 from by (and_intros <;> omega)) (fun r46 p46 => ?_)
                    replace p46 : r46 = pkf s2 ∧ -1 ≤ r46 ∧ r46 ≤ 255 := ⟨p46.1.trans (pkf_eq rfl rfl rfl), p46.2⟩
                    refine s_isSmall (σ := s2) (c := r46)  (fun r47 p47 => ?_)
                    have p47 : (r47 = 1 ∧ 97 ≤ r46 ∧ r46 ≤ 122) ∨ (r47 = 0 ∧ (r46 < 97 ∨ 122 < r46)) := p47
                    replace p47 : OPQ ((r47 = 1 ∧ 97 ≤ r46 ∧ r46 ≤ 122) ∨ (r47 = 0 ∧ (r46 < 97 ∨ 122 < r46))) := p47
                    refine And.intro (fun c48 => ?_) (fun c48 => ?_)
                    · refine hX 400 220 _ _ ?_
                      refine And.intro (Nat.le_of_ble_eq_true rfl) ?_
                      show xw _ _ _ _ _ _ _ _ _ _ [xvr 0, xvi r14, xvi r17, xvi 0] _ _
                      have lp_248 : ∀ (s6 : xS), (Fr [] [4, 11, 12, 13, 14, 17] σ s6 ∧ (s6 0 3 = σ 0 3 ∧ s6 0 4 = s2 0 4 ∧ s6 0 13 = s2 0 13 ∧ s6 0 14 = s2 0 14 ∧ s6 0 12 = s2 0 12) ∧ WY (s2 0 13) (s2 0 17) (s6 0 17) (σ 1 (s2 0 4).toNat)) → X 248 [xvr 0, xvi r14, xvi r17, xvi 0] s6 := by
                        intro s6 hv_248
                        obtain ⟨hF, hv_248, hWY⟩ := hv_248
                        have hpk6 : pkf s6 = pkf s2 := pkf_eq ((hF.1 1 (by decide) (by decide)).trans e2.symm) hv_248.2.1 (by omega)
                        refine hX 400 248 _ _ ?_
                        have lp_275 : ∀ (s7 : xS), (Fr [] [4, 11, 12, 13, 14, 17] σ s7 ∧ (s7 0 3 = σ 0 3 ∧ s7 0 4 = s2 0 4 ∧ s7 0 13 = s2 0 13 ∧ s7 0 17 = s6 0 17 ∧ s7 0 12 = s2 0 12) ∧ NY (s2 0 13) (s2 0 14) (s7 0 14) (σ 1 (s2 0 4).toNat)) → X 275 [xvr 0, xvi r14, xvi r17, xvi 0] s7 := by
                          intro s7 hv_275
                          obtain ⟨hF, hv_275, hNY⟩ := hv_275
                          have hw7 : s7 0 17 = s6 0 17 := hv_275.2.2.2.1
                          refine hX 400 275 _ _ ?_
                          intro v51 e51 l51 h51
                          have e51 : v51 = s7 0 13 := e51
                          intro z52 t52 e52 l52 h52
                          try have w52 : t52 = 0 := by omega
                          have hF := hF.p (j := 13) (v := z52) (by decide)
                          intro v54 e54 l54 h54
                          have e54 : v54 = s7 0 4 := e54
                          intro z55 t55 e55 l55 h55
                          try have w55 : t55 = 0 := by omega
                          have hF := hF.p (j := 4) (v := z55) (by decide)
                          exact ih_181 _ (show ((s7 0 3) - (z55)).toNat < m181 from by omega) 0 (xput (xput s7 0 13 z52) 0 4 z55) rfl ⟨hF, (show s7 0 3 = σ 0 3 ∧ 0 ≤ z52 ∧ z55 = s1 0 4 + z52 ∧ z55 ≤ s7 0 3 ∧ s7 0 12 = s1 0 4 ∧ (0 = 0 ∨ 0 = 1) from by (and_intros <;> omega)), (by
                                        have e9 : (z52).toNat = (s2 0 13).toNat + 1 := by omega
                                        have h9 := RQ.step (all' := 0) (c := σ 1 (s2 0 4).toNat) (sp := s2 0 13) (w' := s7 0 17) (n' := s7 0 14) hQ2 hsm (by rw [show (s1 0 4).toNat + (s2 0 13).toNat = (s2 0 4).toNat from by omega]) (by omega) (Or.inr ⟨rfl, Or.inr (RQ.al0 (pk := r46) (r := r47) hsb p47 (by omega) hS2 (by first | assumption | omega))⟩) (by have zS2 : (97 ≤ σ 1 (s2 0 4).toNat ∧ σ 1 (s2 0 4).toNat ≤ 122 ∨ 48 ≤ σ 1 (s2 0 4).toNat ∧ σ 1 (s2 0 4).toNat ≤ 57) := hS2; unfold alC smC dgC; omega) (by rw [hw7]; exact hWY) hNY
                                        rw [← e9] at h9; exact h9), fun _ => (show 0 < z52 from by omega)⟩
                        intro v57 e57 l57 h57
                        have e57 : v57 = s6 0 13 := e57
                        refine And.intro (fun c58 => ?_) (fun c58 => ?_)
                        · exact lp_275 s6 ⟨hF, (show s6 0 3 = σ 0 3 ∧ s6 0 4 = s2 0 4 ∧ s6 0 13 = s2 0 13 ∧ s6 0 17 = s6 0 17 ∧ s6 0 12 = s2 0 12 from by (and_intros <;> omega)), fun h1 => absurd h1 (by omega)⟩
                        · intro v59 e59 l59 h59
                          have e59 : v59 = s6 0 14 := e59
                          -- m
                          intro z60 t60 e60 l60 h60
                          try have w60 : t60 = 0 := by omega
                          refine s_peek (σ := s6) (show 0 ≤ s6 0 4 ∧ s6 0 3 ≤ 940 from by (and_intros <;> omega)) (fun r61 p61 => ?_)
                          replace p61 : r61 = pkf s6 ∧ -1 ≤ r61 ∧ r61 ≤ 255 := ⟨p61.1.trans (pkf_eq rfl rfl rfl), p61.2⟩
                          -- a
                          intro z62 t62 e62 l62 h62
                          try have w62 : t62 = 0 := by omega
                          -- s
                          intro z63 t63 e63 l63 h63
                          try have w63 : t63 = 0 := by omega
                          have hF := hF.p (j := 14) (v := z63) (by decide)
                          exact lp_275 (xput s6 0 14 z63) ⟨hF, (show s6 0 3 = σ 0 3 ∧ s6 0 4 = s2 0 4 ∧ s6 0 13 = s2 0 13 ∧ s6 0 17 = s6 0 17 ∧ s6 0 12 = s2 0 12 from by (and_intros <;> omega)), (fun h1 h2 h3 => by (have w1 : t60 = 0 := (by omega); have w2 : t62 = 0 := (by omega); have w3 : t63 = 0 := (by omega); show z63 = _; omega))⟩
                      intro v65 e65 l65 h65
                      have e65 : v65 = s2 0 13 := e65
                      refine And.intro (fun c66 => ?_) (fun c66 => ?_)
                      · exact lp_248 s2 ⟨hF, (show s2 0 3 = σ 0 3 ∧ s2 0 4 = s2 0 4 ∧ s2 0 13 = s2 0 13 ∧ s2 0 14 = s2 0 14 ∧ s2 0 12 = s2 0 12 from by (and_intros <;> omega)), fun h1 => absurd h1 (by omega)⟩
                      · intro v67 e67 l67 h67
                        have e67 : v67 = s2 0 17 := e67
                        -- shl
                        intro z68 e68 l68 h68
                        replace e68 : OPQ _ := e68
                        refine s_peek (σ := s2) (show 0 ≤ s2 0 4 ∧ s2 0 3 ≤ 940 from by (and_intros <;> omega)) (fun r69 p69 => ?_)
                        replace p69 : r69 = pkf s2 ∧ -1 ≤ r69 ∧ r69 ≤ 255 := ⟨p69.1.trans (pkf_eq rfl rfl rfl), p69.2⟩
                        -- or
                        intro z70 e70 l70 h70
                        replace e70 : OPQ _ := e70
                        have hF := hF.p (j := 17) (v := z70) (by decide)
                        exact lp_248 (xput s2 0 17 z70) ⟨hF, (show s2 0 3 = σ 0 3 ∧ s2 0 4 = s2 0 4 ∧ s2 0 13 = s2 0 13 ∧ s2 0 14 = s2 0 14 ∧ s2 0 12 = s2 0 12 from by (and_intros <;> omega)), fun h1 h2 h3 => xlor8 (w := s2 0 17) (c := σ 1 (s2 0 4).toNat) h2 h3 (by omega) (by omega) (by rw [show s2 0 17 = v67 from by omega]; exact e68) (by rw [show σ 1 (s2 0 4).toNat = r69 from by omega]; exact e70)⟩
                    · refine And.intro (Nat.le_of_ble_eq_true rfl) ?_
                      show xw _ _ _ _ _ _ _ _ _ _ [xvr 0, xvi r14, xvi r17, xvi 1] _ _
                      have lp_248 : ∀ (s6 : xS), (Fr [] [4, 11, 12, 13, 14, 17] σ s6 ∧ (s6 0 3 = σ 0 3 ∧ s6 0 4 = s2 0 4 ∧ s6 0 13 = s2 0 13 ∧ s6 0 14 = s2 0 14 ∧ s6 0 12 = s2 0 12) ∧ WY (s2 0 13) (s2 0 17) (s6 0 17) (σ 1 (s2 0 4).toNat)) → X 248 [xvr 0, xvi r14, xvi r17, xvi 1] s6 := by
                        intro s6 hv_248
                        obtain ⟨hF, hv_248, hWY⟩ := hv_248
                        have hpk6 : pkf s6 = pkf s2 := pkf_eq ((hF.1 1 (by decide) (by decide)).trans e2.symm) hv_248.2.1 (by omega)
                        refine hX 400 248 _ _ ?_
                        have lp_275 : ∀ (s7 : xS), (Fr [] [4, 11, 12, 13, 14, 17] σ s7 ∧ (s7 0 3 = σ 0 3 ∧ s7 0 4 = s2 0 4 ∧ s7 0 13 = s2 0 13 ∧ s7 0 17 = s6 0 17 ∧ s7 0 12 = s2 0 12) ∧ NY (s2 0 13) (s2 0 14) (s7 0 14) (σ 1 (s2 0 4).toNat)) → X 275 [xvr 0, xvi r14, xvi r17, xvi 1] s7 := by
                          intro s7 hv_275
                          obtain ⟨hF, hv_275, hNY⟩ := hv_275
                          have hw7 : s7 0 17 = s6 0 17 := hv_275.2.2.2.1
                          refine hX 400 275 _ _ ?_
                          intro v74 e74 l74 h74
                          have e74 : v74 = s7 0 13 := e74
                          intro z75 t75 e75 l75 h75
                          try have w75 : t75 = 0 := by omega
                          have hF := hF.p (j := 13) (v := z75) (by decide)
                          intro v77 e77 l77 h77
                          have e77 : v77 = s7 0 4 := e77
                          intro z78 t78 e78 l78 h78
                          try have w78 : t78 = 0 := by omega
                          have hF := hF.p (j := 4) (v := z78) (by decide)
                          exact ih_181 _ (show ((s7 0 3) - (z78)).toNat < m181 from by omega) 1 (xput (xput s7 0 13 z75) 0 4 z78) rfl ⟨hF, (show s7 0 3 = σ 0 3 ∧ 0 ≤ z75 ∧ z78 = s1 0 4 + z75 ∧ z78 ≤ s7 0 3 ∧ s7 0 12 = s1 0 4 ∧ (1 = 0 ∨ 1 = 1) from by (and_intros <;> omega)), (by
                                        have e9 : (z75).toNat = (s2 0 13).toNat + 1 := by omega
                                        have h9 := RQ.step (all' := 1) (c := σ 1 (s2 0 4).toNat) (sp := s2 0 13) (w' := s7 0 17) (n' := s7 0 14) hQ2 hsm (by rw [show (s1 0 4).toNat + (s2 0 13).toNat = (s2 0 4).toNat from by omega]) (by omega) (Or.inl ⟨rfl, (by omega), (RQ.al1 (pk := r46) (r := r47) hsb p47 (by omega) hS2 (by first | assumption | omega))⟩) (by have zS2 : (97 ≤ σ 1 (s2 0 4).toNat ∧ σ 1 (s2 0 4).toNat ≤ 122 ∨ 48 ≤ σ 1 (s2 0 4).toNat ∧ σ 1 (s2 0 4).toNat ≤ 57) := hS2; unfold alC smC dgC; omega) (by rw [hw7]; exact hWY) hNY
                                        rw [← e9] at h9; exact h9), fun _ => (show 0 < z75 from by omega)⟩
                        intro v80 e80 l80 h80
                        have e80 : v80 = s6 0 13 := e80
                        refine And.intro (fun c81 => ?_) (fun c81 => ?_)
                        · exact lp_275 s6 ⟨hF, (show s6 0 3 = σ 0 3 ∧ s6 0 4 = s2 0 4 ∧ s6 0 13 = s2 0 13 ∧ s6 0 17 = s6 0 17 ∧ s6 0 12 = s2 0 12 from by (and_intros <;> omega)), fun h1 => absurd h1 (by omega)⟩
                        · intro v82 e82 l82 h82
                          have e82 : v82 = s6 0 14 := e82
                          -- m
                          intro z83 t83 e83 l83 h83
                          try have w83 : t83 = 0 := by omega
                          refine s_peek (σ := s6) (show 0 ≤ s6 0 4 ∧ s6 0 3 ≤ 940 from by (and_intros <;> omega)) (fun r84 p84 => ?_)
                          replace p84 : r84 = pkf s6 ∧ -1 ≤ r84 ∧ r84 ≤ 255 := ⟨p84.1.trans (pkf_eq rfl rfl rfl), p84.2⟩
                          -- a
                          intro z85 t85 e85 l85 h85
                          try have w85 : t85 = 0 := by omega
                          -- s
                          intro z86 t86 e86 l86 h86
                          try have w86 : t86 = 0 := by omega
                          have hF := hF.p (j := 14) (v := z86) (by decide)
                          exact lp_275 (xput s6 0 14 z86) ⟨hF, (show s6 0 3 = σ 0 3 ∧ s6 0 4 = s2 0 4 ∧ s6 0 13 = s2 0 13 ∧ s6 0 17 = s6 0 17 ∧ s6 0 12 = s2 0 12 from by (and_intros <;> omega)), (fun h1 h2 h3 => by (have w1 : t83 = 0 := (by omega); have w2 : t85 = 0 := (by omega); have w3 : t86 = 0 := (by omega); show z86 = _; omega))⟩
                      intro v88 e88 l88 h88
                      have e88 : v88 = s2 0 13 := e88
                      refine And.intro (fun c89 => ?_) (fun c89 => ?_)
                      · exact lp_248 s2 ⟨hF, (show s2 0 3 = σ 0 3 ∧ s2 0 4 = s2 0 4 ∧ s2 0 13 = s2 0 13 ∧ s2 0 14 = s2 0 14 ∧ s2 0 12 = s2 0 12 from by (and_intros <;> omega)), fun h1 => absurd h1 (by omega)⟩
                      · intro v90 e90 l90 h90
                        have e90 : v90 = s2 0 17 := e90
                        -- shl
                        intro z91 e91 l91 h91
                        replace e91 : OPQ _ := e91
                        refine s_peek (σ := s2) (show 0 ≤ s2 0 4 ∧ s2 0 3 ≤ 940 from by (and_intros <;> omega)) (fun r92 p92 => ?_)
                        replace p92 : r92 = pkf s2 ∧ -1 ≤ r92 ∧ r92 ≤ 255 := ⟨p92.1.trans (pkf_eq rfl rfl rfl), p92.2⟩
                        -- or
                        intro z93 e93 l93 h93
                        replace e93 : OPQ _ := e93
                        have hF := hF.p (j := 17) (v := z93) (by decide)
                        exact lp_248 (xput s2 0 17 z93) ⟨hF, (show s2 0 3 = σ 0 3 ∧ s2 0 4 = s2 0 4 ∧ s2 0 13 = s2 0 13 ∧ s2 0 14 = s2 0 14 ∧ s2 0 12 = s2 0 12 from by (and_intros <;> omega)), fun h1 h2 h3 => xlor8 (w := s2 0 17) (c := σ 1 (s2 0 4).toNat) h2 h3 (by omega) (by omega) (by rw [show s2 0 17 = v90 from by omega]; exact e91) (by rw [show σ 1 (s2 0 4).toNat = r92 from by omega]; exact e93)⟩
                refine s_peek (σ := s2) (show 0 ≤ s2 0 4 ∧ s2 0 3 ≤ 940 from by (and_intros <;> omega)) (fun r95 p95 => ?_)
                replace p95 : r95 = pkf s2 ∧ -1 ≤ r95 ∧ r95 ≤ 255 := ⟨p95.1.trans (pkf_eq rfl rfl rfl), p95.2⟩
                refine s_isSmall (σ := s2) (c := r95)  (fun r96 p96 => ?_)
                have p96 : (r96 = 1 ∧ 97 ≤ r95 ∧ r95 ≤ 122) ∨ (r96 = 0 ∧ (r95 < 97 ∨ 122 < r95)) := p96
                refine And.intro (fun c97 => ?_) (fun c97 => ?_)
                · replace p96 : 97 ≤ r95 ∧ r95 ≤ 122 := by
                    rcases p96 with q | q
                    · exact q.2
                    · exact absurd q.1 (by omega)
                  exact lp_201 () (by (have z := pk_v (s := s2) hp1 e2 h203 (by omega) (by omega) (by omega); omega))
                · replace p96 : (r95 < 97 ∨ 122 < r95) := by
                    rcases p96 with q | q
                    · exact absurd q.1 (by omega)
                    · exact q.2
                  refine s_peek (σ := s2) (show 0 ≤ s2 0 4 ∧ s2 0 3 ≤ 940 from by (and_intros <;> omega)) (fun r98 p98 => ?_)
                  replace p98 : r98 = pkf s2 ∧ -1 ≤ r98 ∧ r98 ≤ 255 := ⟨p98.1.trans (pkf_eq rfl rfl rfl), p98.2⟩
                  refine s_isDigit (σ := s2) (c := r98)  (fun r99 p99 => ?_)
                  have p99 : (r99 = 1 ∧ 48 ≤ r98 ∧ r98 ≤ 57) ∨ (r99 = 0 ∧ (r98 < 48 ∨ 57 < r98)) := p99
                  refine And.intro (fun c100 => ?_) (fun c100 => ?_)
                  · replace p99 : (r98 < 48 ∨ 57 < r98) := by
                      rcases p99 with q | q
                      · exact absurd q.1 (by omega)
                      · exact q.2
                    have hk0 : 0 < (s2 0 13).toNat := by
                      by_cases e : s2 0 13 = 0
                      · exfalso
                        have hq1 : s2 0 13 = 0 → s2 0 4 = s1 0 4 := hq0
                        have e4 := hq1 e
                        clear hq1
                        have zS1 : (97 ≤ σ 1 (s1 0 4).toNat ∧ σ 1 (s1 0 4).toNat ≤ 122 ∨ 48 ≤ σ 1 (s1 0 4).toNat ∧ σ 1 (s1 0 4).toNat ≤ 57) := hS1
                        have ep : pkf s2 = pkf s1 := pkf_eq (e2.trans e1.symm) e4 (by omega)
                        omega
                      · omega
                    have hRn : Rn (σ 1) (σ 0 3) (s1 0 4).toNat (s2 0 13).toNat := ⟨by omega, hQ2.1, fun hlt => by
                        have e9 : (s1 0 4).toNat + (s2 0 13).toNat = (s2 0 4).toNat := by omega
                        have z := pk_w (s := s2) hp1 e2 h203 (by omega) (by omega)
                        rw [e9]; unfold alC smC dgC; omega⟩
                    clear p96 p99
                    refine And.intro (fun c101 => ?_) (fun c101 => ?_)
                    · have hF := hF.p (j := 11) (v := 4) (by decide)
                      refine And.intro rfl (And.intro rfl ?_)
                      exact hQ _ hF ⟨(show 0 ≤ s2 0 4 ∧ s2 0 4 ≤ σ 0 3 from by (and_intros <;> omega)), NXT.run (at' := s1 0 4) (k := (s2 0 13).toNat) hSk (by omega) hv_80 (show s1 0 4 < σ 0 3 from by omega) (show s2 0 12 = s1 0 4 from by omega) hk0 hRn (NXr.of hQ2 hsm hk0 (show (all = 0 ∧ 4 = 4) ∨ (all = 1 ∧ r17 = 1 ∧ (s2 0 13).toNat ≤ 7 ∧ 4 = 1) ∨ (all = 1 ∧ r17 = 0 ∧ (s2 0 13).toNat ≤ 3 ∧ 4 = 2) ∨ (all = 1 ∧ ((r17 = 1 ∧ 7 < (s2 0 13).toNat) ∨ (r17 = 0 ∧ 3 < (s2 0 13).toNat)) ∧ 4 = 4) from by (first | (refine Or.inl ?_; and_intros <;> omega) | (refine Or.inr (Or.inl ?_); and_intros <;> omega) | (refine Or.inr (Or.inr (Or.inl ?_)); and_intros <;> omega) | (refine Or.inr (Or.inr (Or.inr ?_)); and_intros <;> omega)))) (show s2 0 4 = s1 0 4 + ((s2 0 13).toNat : Int) from by omega)⟩
                    · intro v103 e103 l103 h103
                      have e103 : v103 = s2 0 13 := e103
                      refine And.intro (fun c104 => ?_) (fun c104 => ?_)
                      · replace p17 : (r14 < 97 ∨ 122 < r14) := by
                          rcases p17 with q | q
                          · exact absurd q.1 (by omega)
                          · exact q.2
                        refine And.intro (fun c105 => ?_) (fun c105 => ?_)
                        · refine And.intro (fun c106 => ?_) (fun c106 => ?_)
                          · have hF := hF.p (j := 11) (v := 2) (by decide)
                            refine And.intro rfl (And.intro rfl ?_)
                            exact hQ _ hF ⟨(show 0 ≤ s2 0 4 ∧ s2 0 4 ≤ σ 0 3 from by (and_intros <;> omega)), NXT.run (at' := s1 0 4) (k := (s2 0 13).toNat) hSk (by omega) hv_80 (show s1 0 4 < σ 0 3 from by omega) (show s2 0 12 = s1 0 4 from by omega) hk0 hRn (NXr.of hQ2 hsm hk0 (show (all = 0 ∧ 2 = 4) ∨ (all = 1 ∧ r17 = 1 ∧ (s2 0 13).toNat ≤ 7 ∧ 2 = 1) ∨ (all = 1 ∧ r17 = 0 ∧ (s2 0 13).toNat ≤ 3 ∧ 2 = 2) ∨ (all = 1 ∧ ((r17 = 1 ∧ 7 < (s2 0 13).toNat) ∨ (r17 = 0 ∧ 3 < (s2 0 13).toNat)) ∧ 2 = 4) from by (first | (refine Or.inl ?_; and_intros <;> omega) | (refine Or.inr (Or.inl ?_); and_intros <;> omega) | (refine Or.inr (Or.inr (Or.inl ?_)); and_intros <;> omega) | (refine Or.inr (Or.inr (Or.inr ?_)); and_intros <;> omega)))) (show s2 0 4 = s1 0 4 + ((s2 0 13).toNat : Int) from by omega)⟩
                          · have hF := hF.p (j := 11) (v := 1) (by decide)
                            refine And.intro rfl (And.intro rfl ?_)
                            exact hQ _ hF ⟨(show 0 ≤ s2 0 4 ∧ s2 0 4 ≤ σ 0 3 from by (and_intros <;> omega)), NXT.run (at' := s1 0 4) (k := (s2 0 13).toNat) hSk (by omega) hv_80 (show s1 0 4 < σ 0 3 from by omega) (show s2 0 12 = s1 0 4 from by omega) hk0 hRn (NXr.of hQ2 hsm hk0 (show (all = 0 ∧ 1 = 4) ∨ (all = 1 ∧ r17 = 1 ∧ (s2 0 13).toNat ≤ 7 ∧ 1 = 1) ∨ (all = 1 ∧ r17 = 0 ∧ (s2 0 13).toNat ≤ 3 ∧ 1 = 2) ∨ (all = 1 ∧ ((r17 = 1 ∧ 7 < (s2 0 13).toNat) ∨ (r17 = 0 ∧ 3 < (s2 0 13).toNat)) ∧ 1 = 4) from by (first | (refine Or.inl ?_; and_intros <;> omega) | (refine Or.inr (Or.inl ?_); and_intros <;> omega) | (refine Or.inr (Or.inr (Or.inl ?_)); and_intros <;> omega) | (refine Or.inr (Or.inr (Or.inr ?_)); and_intros <;> omega)))) (show s2 0 4 = s1 0 4 + ((s2 0 13).toNat : Int) from by omega)⟩
                        · have hF := hF.p (j := 11) (v := 4) (by decide)
                          refine And.intro rfl (And.intro rfl ?_)
                          exact hQ _ hF ⟨(show 0 ≤ s2 0 4 ∧ s2 0 4 ≤ σ 0 3 from by (and_intros <;> omega)), NXT.run (at' := s1 0 4) (k := (s2 0 13).toNat) hSk (by omega) hv_80 (show s1 0 4 < σ 0 3 from by omega) (show s2 0 12 = s1 0 4 from by omega) hk0 hRn (NXr.of hQ2 hsm hk0 (show (all = 0 ∧ 4 = 4) ∨ (all = 1 ∧ r17 = 1 ∧ (s2 0 13).toNat ≤ 7 ∧ 4 = 1) ∨ (all = 1 ∧ r17 = 0 ∧ (s2 0 13).toNat ≤ 3 ∧ 4 = 2) ∨ (all = 1 ∧ ((r17 = 1 ∧ 7 < (s2 0 13).toNat) ∨ (r17 = 0 ∧ 3 < (s2 0 13).toNat)) ∧ 4 = 4) from by (first | (refine Or.inl ?_; and_intros <;> omega) | (refine Or.inr (Or.inl ?_); and_intros <;> omega) | (refine Or.inr (Or.inr (Or.inl ?_)); and_intros <;> omega) | (refine Or.inr (Or.inr (Or.inr ?_)); and_intros <;> omega)))) (show s2 0 4 = s1 0 4 + ((s2 0 13).toNat : Int) from by omega)⟩
                      · replace p17 : 97 ≤ r14 ∧ r14 ≤ 122 := by
                          rcases p17 with q | q
                          · exact q.2
                          · exact absurd q.1 (by omega)
                        refine And.intro (fun c110 => ?_) (fun c110 => ?_)
                        · refine And.intro (fun c111 => ?_) (fun c111 => ?_)
                          · have hF := hF.p (j := 11) (v := 2) (by decide)
                            refine And.intro rfl (And.intro rfl ?_)
                            exact hQ _ hF ⟨(show 0 ≤ s2 0 4 ∧ s2 0 4 ≤ σ 0 3 from by (and_intros <;> omega)), NXT.run (at' := s1 0 4) (k := (s2 0 13).toNat) hSk (by omega) hv_80 (show s1 0 4 < σ 0 3 from by omega) (show s2 0 12 = s1 0 4 from by omega) hk0 hRn (NXr.of hQ2 hsm hk0 (show (all = 0 ∧ 2 = 4) ∨ (all = 1 ∧ r17 = 1 ∧ (s2 0 13).toNat ≤ 7 ∧ 2 = 1) ∨ (all = 1 ∧ r17 = 0 ∧ (s2 0 13).toNat ≤ 3 ∧ 2 = 2) ∨ (all = 1 ∧ ((r17 = 1 ∧ 7 < (s2 0 13).toNat) ∨ (r17 = 0 ∧ 3 < (s2 0 13).toNat)) ∧ 2 = 4) from by (first | (refine Or.inl ?_; and_intros <;> omega) | (refine Or.inr (Or.inl ?_); and_intros <;> omega) | (refine Or.inr (Or.inr (Or.inl ?_)); and_intros <;> omega) | (refine Or.inr (Or.inr (Or.inr ?_)); and_intros <;> omega)))) (show s2 0 4 = s1 0 4 + ((s2 0 13).toNat : Int) from by omega)⟩
                          · have hF := hF.p (j := 11) (v := 1) (by decide)
                            refine And.intro rfl (And.intro rfl ?_)
                            exact hQ _ hF ⟨(show 0 ≤ s2 0 4 ∧ s2 0 4 ≤ σ 0 3 from by (and_intros <;> omega)), NXT.run (at' := s1 0 4) (k := (s2 0 13).toNat) hSk (by omega) hv_80 (show s1 0 4 < σ 0 3 from by omega) (show s2 0 12 = s1 0 4 from by omega) hk0 hRn (NXr.of hQ2 hsm hk0 (show (all = 0 ∧ 1 = 4) ∨ (all = 1 ∧ r17 = 1 ∧ (s2 0 13).toNat ≤ 7 ∧ 1 = 1) ∨ (all = 1 ∧ r17 = 0 ∧ (s2 0 13).toNat ≤ 3 ∧ 1 = 2) ∨ (all = 1 ∧ ((r17 = 1 ∧ 7 < (s2 0 13).toNat) ∨ (r17 = 0 ∧ 3 < (s2 0 13).toNat)) ∧ 1 = 4) from by (first | (refine Or.inl ?_; and_intros <;> omega) | (refine Or.inr (Or.inl ?_); and_intros <;> omega) | (refine Or.inr (Or.inr (Or.inl ?_)); and_intros <;> omega) | (refine Or.inr (Or.inr (Or.inr ?_)); and_intros <;> omega)))) (show s2 0 4 = s1 0 4 + ((s2 0 13).toNat : Int) from by omega)⟩
                        · have hF := hF.p (j := 11) (v := 4) (by decide)
                          refine And.intro rfl (And.intro rfl ?_)
                          exact hQ _ hF ⟨(show 0 ≤ s2 0 4 ∧ s2 0 4 ≤ σ 0 3 from by (and_intros <;> omega)), NXT.run (at' := s1 0 4) (k := (s2 0 13).toNat) hSk (by omega) hv_80 (show s1 0 4 < σ 0 3 from by omega) (show s2 0 12 = s1 0 4 from by omega) hk0 hRn (NXr.of hQ2 hsm hk0 (show (all = 0 ∧ 4 = 4) ∨ (all = 1 ∧ r17 = 1 ∧ (s2 0 13).toNat ≤ 7 ∧ 4 = 1) ∨ (all = 1 ∧ r17 = 0 ∧ (s2 0 13).toNat ≤ 3 ∧ 4 = 2) ∨ (all = 1 ∧ ((r17 = 1 ∧ 7 < (s2 0 13).toNat) ∨ (r17 = 0 ∧ 3 < (s2 0 13).toNat)) ∧ 4 = 4) from by (first | (refine Or.inl ?_; and_intros <;> omega) | (refine Or.inr (Or.inl ?_); and_intros <;> omega) | (refine Or.inr (Or.inr (Or.inl ?_)); and_intros <;> omega) | (refine Or.inr (Or.inr (Or.inr ?_)); and_intros <;> omega)))) (show s2 0 4 = s1 0 4 + ((s2 0 13).toNat : Int) from by omega)⟩
                  · replace p99 : 48 ≤ r98 ∧ r98 ≤ 57 := by
                      rcases p99 with q | q
                      · exact q.2
                      · exact absurd q.1 (by omega)
                    exact lp_201 () (by (have z := pk_v (s := s2) hp1 e2 h203 (by omega) (by omega) (by omega); omega))
              exact lp_181 _ 1 (xput (xput (xput (xput s1 0 12 v10) 0 13 0) 0 17 0) 0 14 0) rfl ⟨hF, (show s1 0 3 = σ 0 3 ∧ (0 : Int) ≤ 0 ∧ s1 0 4 = s1 0 4 + 0 ∧ s1 0 4 ≤ s1 0 3 ∧ v10 = s1 0 4 ∧ ((1 : Int) = 0 ∨ (1 : Int) = 1) from by (and_intros <;> omega)), RQ.z, fun h => absurd h (by decide)⟩
            refine s_isSmall (σ := (xput (xput s1 0 12 v10) 0 13 0)) (c := r14)  (fun r115 p115 => ?_)
            have p115 : (r115 = 1 ∧ 97 ≤ r14 ∧ r14 ≤ 122) ∨ (r115 = 0 ∧ (r14 < 97 ∨ 122 < r14)) := p115
            refine And.intro (fun c116 => ?_) (fun c116 => ?_)
            · replace p115 : 97 ≤ r14 ∧ r14 ≤ 122 := by
                rcases p115 with q | q
                · exact q.2
                · exact absurd q.1 (by omega)
              exact lp_164 () (by (have z := pk_v (s := s1) hp1 e1 h03 (by omega) (by omega) (by omega); omega))
            · replace p115 : (r14 < 97 ∨ 122 < r14) := by
                rcases p115 with q | q
                · exact absurd q.1 (by omega)
                · exact q.2
              refine s_isDigit (σ := (xput (xput s1 0 12 v10) 0 13 0)) (c := r14)  (fun r117 p117 => ?_)
              have p117 : (r117 = 1 ∧ 48 ≤ r14 ∧ r14 ≤ 57) ∨ (r117 = 0 ∧ (r14 < 48 ∨ 57 < r14)) := p117
              refine And.intro (fun c118 => ?_) (fun c118 => ?_)
              · replace p117 : 48 ≤ r14 ∧ r14 ≤ 57 := by
                  rcases p117 with q | q
                  · exact q.2
                  · exact absurd q.1 (by omega)
                exact lp_164 () (by (have z := pk_v (s := s1) hp1 e1 h03 (by omega) (by omega) (by omega); omega))
              · replace p117 : (r14 < 48 ∨ 57 < r14) := by
                  rcases p117 with q | q
                  · exact absurd q.1 (by omega)
                  · exact q.2
                refine And.intro (fun c119 => ?_) (fun c119 => ?_)
                · have hF := hF.p (j := 11) (v := 3) (by decide)
                  have hF := hF.p (j := 14) (v := r14) (by decide)
                  intro v122 e122 l122 h122
                  have e122 : v122 = s1 0 4 := e122
                  intro z123 t123 e123 l123 h123
                  try have w123 : t123 = 0 := by omega
                  have hF := hF.p (j := 4) (v := z123) (by decide)
                  refine And.intro rfl (And.intro rfl ?_)
                  have zW := pk_w (s := s1) hp1 e1 h03 (by omega) (by omega)
                  exact hQ _ hF ⟨(show 0 ≤ z123 ∧ z123 ≤ σ 0 3 from by (and_intros <;> omega)), NXT.one (at' := s1 0 4) (c := σ 1 (s1 0 4).toNat) hSk (by omega) hv_80 (show s1 0 4 < σ 0 3 from by omega) (show v10 = s1 0 4 from by omega) rfl (by unfold alC smC dgC; omega) (show (sgC (σ 1 (s1 0 4).toNat) ∧ 3 = 3 ∧ r14 = σ 1 (s1 0 4).toNat) ∨ (¬ sgC (σ 1 (s1 0 4).toNat) ∧ 3 = 4) from Or.inl ⟨(by unfold sgC; omega), (by omega), (by omega)⟩) (show z123 = s1 0 4 + 1 from by omega)⟩
                · refine And.intro (fun c125 => ?_) (fun c125 => ?_)
                  · have hF := hF.p (j := 11) (v := 3) (by decide)
                    have hF := hF.p (j := 14) (v := r14) (by decide)
                    intro v128 e128 l128 h128
                    have e128 : v128 = s1 0 4 := e128
                    intro z129 t129 e129 l129 h129
                    try have w129 : t129 = 0 := by omega
                    have hF := hF.p (j := 4) (v := z129) (by decide)
                    refine And.intro rfl (And.intro rfl ?_)
                    have zW := pk_w (s := s1) hp1 e1 h03 (by omega) (by omega)
                    exact hQ _ hF ⟨(show 0 ≤ z129 ∧ z129 ≤ σ 0 3 from by (and_intros <;> omega)), NXT.one (at' := s1 0 4) (c := σ 1 (s1 0 4).toNat) hSk (by omega) hv_80 (show s1 0 4 < σ 0 3 from by omega) (show v10 = s1 0 4 from by omega) rfl (by unfold alC smC dgC; omega) (show (sgC (σ 1 (s1 0 4).toNat) ∧ 3 = 3 ∧ r14 = σ 1 (s1 0 4).toNat) ∨ (¬ sgC (σ 1 (s1 0 4).toNat) ∧ 3 = 4) from Or.inl ⟨(by unfold sgC; omega), (by omega), (by omega)⟩) (show z129 = s1 0 4 + 1 from by omega)⟩
                  · refine And.intro (fun c131 => ?_) (fun c131 => ?_)
                    · have hF := hF.p (j := 11) (v := 3) (by decide)
                      have hF := hF.p (j := 14) (v := r14) (by decide)
                      intro v134 e134 l134 h134
                      have e134 : v134 = s1 0 4 := e134
                      intro z135 t135 e135 l135 h135
                      try have w135 : t135 = 0 := by omega
                      have hF := hF.p (j := 4) (v := z135) (by decide)
                      refine And.intro rfl (And.intro rfl ?_)
                      have zW := pk_w (s := s1) hp1 e1 h03 (by omega) (by omega)
                      exact hQ _ hF ⟨(show 0 ≤ z135 ∧ z135 ≤ σ 0 3 from by (and_intros <;> omega)), NXT.one (at' := s1 0 4) (c := σ 1 (s1 0 4).toNat) hSk (by omega) hv_80 (show s1 0 4 < σ 0 3 from by omega) (show v10 = s1 0 4 from by omega) rfl (by unfold alC smC dgC; omega) (show (sgC (σ 1 (s1 0 4).toNat) ∧ 3 = 3 ∧ r14 = σ 1 (s1 0 4).toNat) ∨ (¬ sgC (σ 1 (s1 0 4).toNat) ∧ 3 = 4) from Or.inl ⟨(by unfold sgC; omega), (by omega), (by omega)⟩) (show z135 = s1 0 4 + 1 from by omega)⟩
                    · refine And.intro (fun c137 => ?_) (fun c137 => ?_)
                      · have hF := hF.p (j := 11) (v := 4) (by decide)
                        have hF := hF.p (j := 14) (v := r14) (by decide)
                        intro v140 e140 l140 h140
                        have e140 : v140 = s1 0 4 := e140
                        intro z141 t141 e141 l141 h141
                        try have w141 : t141 = 0 := by omega
                        have hF := hF.p (j := 4) (v := z141) (by decide)
                        refine And.intro rfl (And.intro rfl ?_)
                        have zW := pk_w (s := s1) hp1 e1 h03 (by omega) (by omega)
                        exact hQ _ hF ⟨(show 0 ≤ z141 ∧ z141 ≤ σ 0 3 from by (and_intros <;> omega)), NXT.one (at' := s1 0 4) (c := σ 1 (s1 0 4).toNat) hSk (by omega) hv_80 (show s1 0 4 < σ 0 3 from by omega) (show v10 = s1 0 4 from by omega) rfl (by unfold alC smC dgC; omega) (show (sgC (σ 1 (s1 0 4).toNat) ∧ 4 = 3 ∧ r14 = σ 1 (s1 0 4).toNat) ∨ (¬ sgC (σ 1 (s1 0 4).toNat) ∧ 4 = 4) from Or.inr ⟨(by unfold sgC; omega), (by omega)⟩) (show z141 = s1 0 4 + 1 from by omega)⟩
                      · refine And.intro (fun c143 => ?_) (fun c143 => ?_)
                        · have hF := hF.p (j := 11) (v := 4) (by decide)
                          have hF := hF.p (j := 14) (v := r14) (by decide)
                          intro v146 e146 l146 h146
                          have e146 : v146 = s1 0 4 := e146
                          intro z147 t147 e147 l147 h147
                          try have w147 : t147 = 0 := by omega
                          have hF := hF.p (j := 4) (v := z147) (by decide)
                          refine And.intro rfl (And.intro rfl ?_)
                          have zW := pk_w (s := s1) hp1 e1 h03 (by omega) (by omega)
                          exact hQ _ hF ⟨(show 0 ≤ z147 ∧ z147 ≤ σ 0 3 from by (and_intros <;> omega)), NXT.one (at' := s1 0 4) (c := σ 1 (s1 0 4).toNat) hSk (by omega) hv_80 (show s1 0 4 < σ 0 3 from by omega) (show v10 = s1 0 4 from by omega) rfl (by unfold alC smC dgC; omega) (show (sgC (σ 1 (s1 0 4).toNat) ∧ 4 = 3 ∧ r14 = σ 1 (s1 0 4).toNat) ∨ (¬ sgC (σ 1 (s1 0 4).toNat) ∧ 4 = 4) from Or.inr ⟨(by unfold sgC; omega), (by omega)⟩) (show z147 = s1 0 4 + 1 from by omega)⟩
                        · have hF := hF.p (j := 11) (v := 3) (by decide)
                          have hF := hF.p (j := 14) (v := r14) (by decide)
                          intro v151 e151 l151 h151
                          have e151 : v151 = s1 0 4 := e151
                          intro z152 t152 e152 l152 h152
                          try have w152 : t152 = 0 := by omega
                          have hF := hF.p (j := 4) (v := z152) (by decide)
                          refine And.intro rfl (And.intro rfl ?_)
                          have zW := pk_w (s := s1) hp1 e1 h03 (by omega) (by omega)
                          exact hQ _ hF ⟨(show 0 ≤ z152 ∧ z152 ≤ σ 0 3 from by (and_intros <;> omega)), NXT.one (at' := s1 0 4) (c := σ 1 (s1 0 4).toNat) hSk (by omega) hv_80 (show s1 0 4 < σ 0 3 from by omega) (show v10 = s1 0 4 from by omega) rfl (by unfold alC smC dgC; omega) (show (sgC (σ 1 (s1 0 4).toNat) ∧ 3 = 3 ∧ r14 = σ 1 (s1 0 4).toNat) ∨ (¬ sgC (σ 1 (s1 0 4).toNat) ∧ 3 = 4) from Or.inl ⟨(by unfold sgC; omega), (by omega), (by omega)⟩) (show z152 = s1 0 4 + 1 from by omega)⟩
          · have hF := hF.p (j := 11) (v := 0) (by decide)
            refine And.intro rfl (And.intro rfl ?_)
            exact hQ _ hF ⟨(show 0 ≤ s1 0 4 ∧ s1 0 4 ≤ σ 0 3 from by (and_intros <;> omega)), NXT.stop (at' := s1 0 4) hSk (by omega) hv_80 (show σ 0 3 ≤ s1 0 4 from by have z := pkf_r s1; omega) (show v10 = s1 0 4 from by omega) rfl rfl⟩
        intro v155 e155 l155 h155
        have e155 : v155 = s1 0 3 := e155
        intro v156 e156 l156 h156
        have e156 : v156 = s1 0 5 := e156
        refine And.intro (fun c157 => ?_) (fun c157 => ?_)
        · exact lp_80 () (show ¬ (σ 0 5 < σ 0 3 ∧ σ 0 5 ≤ s1 0 4) from by first | trivial | omega | (refine ⟨by assumption, ?_⟩; omega) | (refine ⟨?_, ?_⟩ <;> omega))
        · intro v158 e158 l158 h158
          have e158 : v158 = s1 0 4 := e158
          intro v159 e159 l159 h159
          have e159 : v159 = s1 0 5 := e159
          refine And.intro (fun c160 => ?_) (fun c160 => ?_)
          · exact lp_80 () (show ¬ (σ 0 5 < σ 0 3 ∧ σ 0 5 ≤ s1 0 4) from by first | trivial | omega | (refine ⟨by assumption, ?_⟩; omega) | (refine ⟨?_, ?_⟩ <;> omega))
          · intro v161 e161 l161 h161
            have e161 : v161 = s1 0 5 := e161
            have hF := hF.p (j := 12) (v := v161) (by decide)
            have hF := hF.p (j := 11) (v := 4) (by decide)
            refine And.intro rfl (And.intro rfl ?_)
            exact hQ _ hF ⟨(show 0 ≤ s1 0 4 ∧ s1 0 4 ≤ σ 0 3 from by (and_intros <;> omega)), NXT.far (at' := s1 0 4) hSk (by omega) (show σ 0 5 < σ 0 3 from by omega) (show σ 0 5 ≤ s1 0 4 from by omega) (show v161 = σ 0 5 from by omega) rfl rfl⟩
      · exact lp_18 () (by (have z := pk_v (s := s1) hp1 e1 h03 (by omega) (by omega) (by omega); exact ⟨(by omega), (by (rw [← z.2]; unfold bkC; omega))⟩))
  exact lp_0 _ σ rfl ⟨hF, by omega, fun i h1 h2 => by omega⟩

