set_option maxHeartbeats 4000000 in
set_option maxRecDepth 100000 in
theorem sX6_advanceF {σ : xS} {Q : Option xV → xS → Prop} (hp0 : 0 ≤ σ 0 4 ∧ σ 0 4 ≤ σ 0 2 ∧ σ 0 2 ≤ 940) (hQ : ∀ σ' : xS, Fr [] [4, 5, 6, 7, 8] σ σ' → ((0 ≤ σ' 0 4 ∧ σ' 0 4 ≤ σ 0 2) ∧ NXC (σ 2) (σ 1) (σ 0 2) (σ 0 3) (σ 0 4) (σ' 0 5) (σ' 0 6) (σ' 0 7) (σ' 0 8) (σ' 0 4)) → Q none σ') : xT kX6_advance [xvr 0] σ Q := by
  refine ⟨Nat.le_of_ble_eq_true rfl, fun X hX => ?_⟩
  show X 0 [xvr 0, xvu, xvu] σ
  have hF : Fr [] [4, 5, 6, 7, 8] σ σ := Fr.rf
  have lp_0 : ∀ (m0 : Nat) (s1 : xS), ((σ 0 2 - s1 0 4).toNat) = m0 → (Fr [] [4, 5, 6, 7, 8] σ s1 ∧ (s1 0 2 = σ 0 2 ∧ s1 0 3 = σ 0 3 ∧ σ 0 4 ≤ s1 0 4 ∧ s1 0 4 ≤ σ 0 2) ∧ ∀ i : Nat, σ 0 4 ≤ i → (i : Int) < s1 0 4 → bkC (σ 2 i)) → X 0 [xvr 0, xvu, xvu] s1 := by
    intro m0
    induction m0 using Nat.strongRecOn with
    | _ m0 ih_0 =>
    intro s1 hm_0 hv_0
    obtain ⟨hF, hv_0, hB⟩ := hv_0
    have e2 : s1 2 = σ 2 := hF.1 2 (by decide) (by decide)
    have e1 : s1 1 = σ 1 := hF.1 1 (by decide) (by decide)
    have hs2 : s1 0 2 = σ 0 2 := hv_0.1
    refine hX 400 0 _ _ ?_
    have lp_39 : ∀ (_ : Unit), (s1 0 4 < s1 0 2 ∧ bkC (σ 2 (s1 0 4).toNat)) → X 39 [xvr 0, xvu, xvu] s1 := by
      intro _ hv_39
      refine hX 400 39 _ _ ?_
      intro v3 e3 l3 h3
      have e3 : v3 = s1 0 4 := e3
      intro z4 t4 e4 l4 h4
      try have w4 : t4 = 0 := by omega
      have hF := hF.p (j := 4) (v := z4) (by decide)
      exact ih_0 _ (show (σ 0 2 - (z4)).toNat < m0 from by omega) (xput s1 0 4 z4) rfl ⟨hF, (show s1 0 2 = σ 0 2 ∧ s1 0 3 = σ 0 3 ∧ σ 0 4 ≤ z4 ∧ z4 ≤ σ 0 2 from by omega), (fun i h1 h2 => by
                    have h2 : (i : Int) < z4 := h2
                    by_cases e : (i : Int) = s1 0 4
                    · rw [show i = (s1 0 4).toNat from by omega]; exact hv_39.2
                    · exact hB i h1 (by omega))⟩
    have lp_52 : ∀ (_ : Unit), (s1 0 4 < σ 0 2 → ¬ bkC (σ 2 (s1 0 4).toNat)) → X 52 [xvr 0, xvu, xvu] s1 := by
      intro _ hv_52
      have hSk : Sk (σ 2) (σ 0 2) (σ 0 4) (s1 0 4).toNat := ⟨by omega, by omega, fun i h1 h2 => hB i h1 (by omega), fun h => hv_52 (by omega)⟩
      refine hX 400 52 _ _ ?_
      intro v7 e7 l7 h7
      have e7 : v7 = s1 0 4 := e7
      have hF := hF.p (j := 6) (v := v7) (by decide)
      have lp_100 : ∀ (_ : Unit), (¬ (σ 0 3 < σ 0 2 ∧ σ 0 3 ≤ s1 0 4)) → X 100 [xvr 0, xvu, xvu] (xput s1 0 6 v7) := by
        intro _ hv_100
        refine hX 400 100 _ _ ?_
        intro v10 e10 l10 h10
        have e10 : v10 = s1 0 4 := e10
        intro v11 e11 l11 h11
        have e11 : v11 = s1 0 2 := e11
        refine And.intro (fun c12 => ?_) (fun c12 => ?_)
        · refine sX6_takeRunF (σ := (xput s1 0 6 v7)) (show 0 ≤ s1 0 4 ∧ s1 0 4 ≤ s1 0 2 ∧ s1 0 2 ≤ 940 from by omega) (fun r13 σ13 f13 p13 => ?_)
          have hT : TRP (s1 2) (s1 1) (s1 0 4) (s1 0 2) r13 (σ13 0 4) (σ13 0 5) (σ13 0 7) (σ13 0 8) := p13.2
          rw [e2, e1] at hT
          have p13 : (0 ≤ σ13 0 4 ∧ σ13 0 4 ≤ s1 0 2) := p13.1
          have hr4 : r13 = 0 → σ13 0 4 = s1 0 4 := fun h => by
            rcases hT with ⟨a1, a2, -⟩ | ⟨a1, -⟩
            · exact a2
            · omega
          have hF := hF.tr f13 (by decide) (by decide)
          have k02 : σ13 0 2 = s1 0 2 := f13.2 2 (by decide)
          have k06 : σ13 0 6 = v7 := f13.2 6 (by decide)
          have kb : σ13 2 = σ 2 := (f13.1 2 (by decide) (by decide)).trans e2
          refine And.intro (fun c14 => ?_) (fun c14 => ?_)
          · refine hX 400 205 _ _ ?_
            refine And.intro rfl (And.intro rfl ?_)
            exact hQ _ hF ⟨(show 0 ≤ σ13 0 4 ∧ σ13 0 4 ≤ σ 0 2 from by omega), NXC.run hSk (by omega) (by omega) (by omega) (by omega) (by rw [← hs2]; exact hT) (by omega)⟩
          · intro v15 e15 l15 h15
            have e15 : v15 = σ13 0 4 := e15
            refine And.intro (Or.inl rfl) (And.intro (⟨by omega, by omega⟩) ?_)
            intro v16 e16 l16 h16
            have e16 : v16 = σ13 2 v15.toNat := e16
            have hc : v16 = σ 2 (s1 0 4).toNat := by
              have hr4 := hr4 (by omega)
              rw [e16, kb, show v15 = s1 0 4 from by omega]
            refine And.intro (Nat.le_of_ble_eq_true rfl) ?_
            show xw _ _ _ _ _ _ _ _ _ _ [xvr 0, xvi v16, xvu] _ _
            have lp_174 : ∀ (_ : Unit), (sgC v16) → X 174 [xvr 0, xvi v16, xvu] σ13 := by
              intro _ hv_174
              have hg := hv_174
              refine hX 400 174 _ _ ?_
              refine And.intro (Nat.le_of_ble_eq_true rfl) ?_
              show xw _ _ _ _ _ _ _ _ _ _ [xvr 0, xvi v16, xvi 1] _ _
              refine And.intro (fun c18 => absurd c18 (by decide)) (fun _ => ?_)
              have hF := hF.p (j := 5) (v := v16) (by decide)
              intro v20 e20 l20 h20
              have e20 : v20 = σ13 0 4 := e20
              intro z21 t21 e21 l21 h21
              try have w21 : t21 = 0 := by omega
              have hF := hF.p (j := 4) (v := z21) (by decide)
              refine hX 400 205 _ _ ?_
              refine And.intro rfl (And.intro rfl ?_)
              exact hQ _ hF ⟨(show 0 ≤ z21 ∧ z21 ≤ σ 0 2 from by omega), NXC.sign hSk (by omega) (by omega) (by omega) (show σ13 0 6 = s1 0 4 from by omega) (by rw [← hs2]; exact hT) (by omega) hc hg rfl (show z21 = s1 0 4 + 1 from by omega)⟩
            refine And.intro (fun c23 => ?_) (fun c23 => ?_)
            · exact lp_174 () (by unfold sgC; omega)
            · refine And.intro (fun c24 => ?_) (fun c24 => ?_)
              · exact lp_174 () (by unfold sgC; omega)
              · refine And.intro (fun c25 => ?_) (fun c25 => ?_)
                · exact lp_174 () (by unfold sgC; omega)
                · refine And.intro (fun c26 => ?_) (fun c26 => ?_)
                  · exact lp_174 () (by unfold sgC; omega)
                  · refine And.intro (fun c27 => ?_) (fun c27 => ?_)
                    · exact lp_174 () (by unfold sgC; omega)
                    · refine And.intro (fun c28 => ?_) (fun c28 => ?_)
                      · have hg : ¬ sgC v16 := by unfold sgC; omega
                        refine And.intro (Nat.le_of_ble_eq_true rfl) ?_
                        show xw _ _ _ _ _ _ _ _ _ _ [xvr 0, xvi v16, xvi 0] _ _
                        refine And.intro (fun _ => ?_) (fun c29 => absurd (by decide) c29)
                        have hF := hF.p (j := 5) (v := 303) (by decide)
                        intro v31 e31 l31 h31
                        have e31 : v31 = σ13 0 4 := e31
                        intro z32 t32 e32 l32 h32
                        try have w32 : t32 = 0 := by omega
                        have hF := hF.p (j := 4) (v := z32) (by decide)
                        refine hX 400 205 _ _ ?_
                        refine And.intro rfl (And.intro rfl ?_)
                        exact hQ _ hF ⟨(show 0 ≤ z32 ∧ z32 ≤ σ 0 2 from by omega), NXC.bad hSk (by omega) (by omega) (by omega) (show σ13 0 6 = s1 0 4 from by omega) (by rw [← hs2]; exact hT) (by omega) hc hg rfl (show z32 = s1 0 4 + 1 from by omega)⟩
                      · exact lp_174 () (by unfold sgC; omega)
        · have hF := hF.p (j := 5) (v := 302) (by decide)
          refine hX 400 205 _ _ ?_
          refine And.intro rfl (And.intro rfl ?_)
          exact hQ _ hF ⟨(show 0 ≤ s1 0 4 ∧ s1 0 4 ≤ σ 0 2 from by omega), NXC.stop (at' := s1 0 4) hSk (show 0 ≤ s1 0 4 from by omega) (show ¬ (σ 0 3 < σ 0 2 ∧ σ 0 3 ≤ s1 0 4) from by omega) (show σ 0 2 ≤ s1 0 4 from by omega) (show v7 = s1 0 4 from by omega) rfl⟩
      intro v35 e35 l35 h35
      have e35 : v35 = s1 0 2 := e35
      intro v36 e36 l36 h36
      have e36 : v36 = s1 0 3 := e36
      refine And.intro (fun c37 => ?_) (fun c37 => ?_)
      · exact lp_100 () (show ¬ (σ 0 3 < σ 0 2 ∧ σ 0 3 ≤ s1 0 4) from by first | trivial | omega | (refine ⟨by assumption, ?_⟩; omega) | (refine ⟨?_, ?_⟩ <;> omega))
      · intro v38 e38 l38 h38
        have e38 : v38 = s1 0 4 := e38
        intro v39 e39 l39 h39
        have e39 : v39 = s1 0 3 := e39
        refine And.intro (fun c40 => ?_) (fun c40 => ?_)
        · exact lp_100 () (show ¬ (σ 0 3 < σ 0 2 ∧ σ 0 3 ≤ s1 0 4) from by first | trivial | omega | (refine ⟨by assumption, ?_⟩; omega) | (refine ⟨?_, ?_⟩ <;> omega))
        · intro v41 e41 l41 h41
          have e41 : v41 = s1 0 3 := e41
          have hF := hF.p (j := 6) (v := v41) (by decide)
          have hF := hF.p (j := 5) (v := 303) (by decide)
          refine hX 400 205 _ _ ?_
          refine And.intro rfl (And.intro rfl ?_)
          exact hQ _ hF ⟨(show 0 ≤ s1 0 4 ∧ s1 0 4 ≤ σ 0 2 from by omega), NXC.far (at' := s1 0 4) hSk (show 0 ≤ s1 0 4 from by omega) (show σ 0 3 < σ 0 2 from by omega) (show σ 0 3 ≤ s1 0 4 from by omega) (show v41 = σ 0 3 from by omega) rfl⟩
    intro v44 e44 l44 h44
    have e44 : v44 = s1 0 4 := e44
    intro v45 e45 l45 h45
    have e45 : v45 = s1 0 2 := e45
    refine And.intro (fun c46 => ?_) (fun c46 => ?_)
    · exact lp_52 () (fun hlt => by unfold bkC; omega)
    · intro v47 e47 l47 h47
      have e47 : v47 = s1 0 4 := e47
      refine And.intro (Or.inl rfl) (And.intro (⟨by omega, by omega⟩) ?_)
      intro v48 e48 l48 h48
      have e48 : v48 = s1 2 v47.toNat := e48
      have hbv48 : v48 = σ 2 (s1 0 4).toNat := by rw [e48, e2, show v47 = s1 0 4 from by omega]
      refine And.intro (fun c49 => ?_) (fun c49 => ?_)
      · exact lp_39 () ⟨by omega, (by unfold bkC; omega)⟩
      · intro v50 e50 l50 h50
        have e50 : v50 = s1 0 4 := e50
        refine And.intro (Or.inl rfl) (And.intro (⟨by omega, by omega⟩) ?_)
        intro v51 e51 l51 h51
        have e51 : v51 = s1 2 v50.toNat := e51
        have hbv51 : v51 = σ 2 (s1 0 4).toNat := by rw [e51, e2, show v50 = s1 0 4 from by omega]
        refine And.intro (fun c52 => ?_) (fun c52 => ?_)
        · exact lp_52 () (fun hlt => by unfold bkC; omega)
        · exact lp_39 () ⟨by omega, (by unfold bkC; omega)⟩
  exact lp_0 _ σ rfl ⟨hF, by omega, fun i h1 h2 => by omega⟩

