set_option maxHeartbeats 4000000 in
set_option maxRecDepth 100000 in
theorem s_lacks {σ : xS} {code : Int} {Q : Option xV → xS → Prop} (hp0 : OPx (σ 2)) (hp1 : GD (σ 2) code) (hp2 : VL (σ 2) (σ 16)) (hQ : ∀ r : Int, ∀ σ' : xS, Fr [16, 18, 19] [42, 43, 44, 45, 46, 47] σ σ' → ((r = -1 ∧ ∃ w : Int, ¬ w = 0 ∧ (-9 * (rkc (σ 2) code + 1) ≤ w - 1000 ∧ w - 1000 ≤ 9 * (rkc (σ 2) code + 1)) ∧ σ' 16 = up (σ 16) code.toNat w) ∨ (GD (σ 2) r ∧ rkc (σ 2) r < rkc (σ 2) code ∧ σ 16 r.toNat = 0 ∧ σ' 16 = σ 16)) → Q (some (xvi r)) σ') : xT kX11_lacks [xvr 0, xvi code] σ Q := by
  refine ⟨Nat.le_of_ble_eq_true rfl, fun X hX => ?_⟩
  show X 0 [xvr 0, xvi code, xvu, xvu, xvu] σ
  have hF : Fr [16, 18, 19] [42, 43, 44, 45, 46, 47] σ σ := Fr.rf
  refine hX 400 0 _ _ ?_
  have m7 := hp0.1; have m0 := hp0.2.1; have hrk := rkc_b hp0.1 hp1; have hc0 := hp1.1
  refine And.intro (Nat.le_of_ble_eq_true rfl) ?_
  show xw _ _ _ _ _ _ _ _ _ _ [xvr 0, xvi code, xvi (-1000), xvu, xvu] _ _
  refine And.intro (Nat.le_of_ble_eq_true rfl) ?_
  show xw _ _ _ _ _ _ _ _ _ _ [xvr 0, xvi code, xvi (-1000), xvi 0, xvu] _ _
  have lp_6 : ∀ (m6 : Nat) (best : Int) (kind : Int) (u1_4 : xV) (s1 : xS), ((3 - kind).toNat) = m6 → (Fr [16, 18, 19] [42, 43, 44, 45, 46, 47] σ s1 ∧ s1 16 = σ 16 ∧ (0 ≤ kind ∧ kind ≤ 3) ∧ ((best = -1000 ∧ ∀ k : Nat, (k : Int) < kind → dm code k = 0) ∨ (-9 * (rkc (σ 2) code + 1) ≤ best ∧ best ≤ 9 * (rkc (σ 2) code + 1)))) → X 6 [xvr 0, xvi code, xvi best, xvi kind, u1_4] s1 := by
    intro m6
    induction m6 using Nat.strongRecOn with
    | _ m6 ih_6 =>
    intro best kind u1_4 s1 hm_6 hv_6
    obtain ⟨hF, hs16, hv_6, hbest⟩ := hv_6
    have hs2 : s1 2 = σ 2 := hF.1 2 (by decide) (by decide)
    have q0 := congrFun hs2 0
    have hbe : -1000 ≤ best ∧ best ≤ 1000 := by rcases hbest with c | c <;> omega
    refine hX 400 6 _ _ ?_
    refine And.intro (rfl) (And.intro (⟨by omega, by omega⟩) ?_)
    intro v2 e2 l2 h2
    have e2 : v2 = s1 2 0 := e2
    refine And.intro (fun c3 => ?_) (fun c3 => ?_)
    · intro z4 t4 e4 l4 h4
      try have w4 : t4 = 0 := by omega
      refine And.intro (rfl) (And.intro (⟨by omega, by omega⟩) ?_)
      have hF := hF.pt (t := 16) (j := code.toNat) (v := z4) (by decide) (by decide)
      refine And.intro rfl ?_
      have hbb : -9 * (rkc (σ 2) code + 1) ≤ best ∧ best ≤ 9 * (rkc (σ 2) code + 1) := by
        rcases hbest with c | c
        · exfalso
          have zz : ∀ q, q < 3 → dm code q = 0 := fun q hq => by
            by_cases e : (q : Int) < kind
            · exact c.2 q e
            · exact ((hp1.2.1.2 q hq).2.2.2 (by omega)).1
          have z0 := zz 0 (by omega); have z1 := zz 1 (by omega); have z2 := zz 2 (by omega); have z3 := hp1.2.2
          omega
        · exact c
      exact hQ _ _ hF (Or.inl ⟨rfl, z4, by omega, by omega, (by rw [xput_up, hs16])⟩)
    · refine s_decode (σ := s1) (code := code) (by have := hp1.1; omega) (fun σ6 f6 p6 => ?_)
      have hF := hF.tr f6 (by decide) (by decide)
      have hs16 : σ6 16 = σ 16 := (f6.1 16 (by decide) (by decide)).trans hs16
      have hs2 : σ6 2 = σ 2 := (f6.1 2 (by decide) (by decide)).trans hs2
      have q0 := congrFun hs2 0
      have hkd : σ6 18 kind.toNat = dm code kind.toNat := (p6.1 kind.toNat (by omega)).1
      have hbk := (hp1.2.1.b (k := kind.toNat) (by omega)).1
      refine And.intro (rfl) (And.intro (⟨by omega, by omega⟩) ?_)
      intro v7 e7 l7 h7
      have e7 : v7 = σ6 18 kind.toNat := e7
      refine And.intro (fun c8 => ?_) (fun c8 => ?_)
      · refine s_goes (σ := σ6) (code := code) (kind := kind) (by rw [hs2]; exact hp0) (by rw [hs2]; exact hp1) (by omega) (by omega) (fun σ9 f9 p9 => ?_)
        rw [hs2] at p9
        have hF := hF.tr f9 (by decide) (by decide)
        have hs16 : σ9 16 = σ 16 := (f9.1 16 (by decide) (by decide)).trans hs16
        have hs2 : σ9 2 = σ 2 := (f9.1 2 (by decide) (by decide)).trans hs2
        have q0 := congrFun hs2 0
        have hto := p9.1; have htg := p9.2.1; have hts := p9.2.2
        have hrg : σ9 0 44 = -1 ∨ (0 ≤ σ9 0 44 ∧ σ9 0 44 < 156250) := by
          rcases hto with q | q
          · exact Or.inl q
          · exact Or.inr q.1.1
        have lp_64 : ∀ (_ : Unit), (σ9 0 44 = -1 ∨ ¬ σ 16 (σ9 0 44).toNat = 0) → X 64 [xvr 0, xvi code, xvi best, xvi kind, u1_4] σ9 := by
          intro _ hv_64
          refine hX 400 64 _ _ ?_
          intro v11 e11 l11 h11
          have e11 : v11 = σ9 0 45 := e11
          intro v12 e12 l12 h12
          have e12 : v12 = σ9 0 44 := e12
          refine And.intro (fun c13 => ?_) (fun c13 => ?_)
          · intro v14 e14 l14 h14
            have e14 : v14 = σ9 0 46 := e14
            intro v15 e15 l15 h15
            have e15 : v15 = σ9 0 44 := e15
            refine And.intro (rfl) (And.intro (⟨by omega, by omega⟩) ?_)
            intro v16 e16 l16 h16
            have e16 : v16 = σ9 16 v15.toNat := e16
            have hvv16 : v16 = σ 16 (σ9 0 44).toNat := by rw [e16, hs16, show v15 = σ9 0 44 from by omega]
            have hwv16 : ¬ v16 = 0 → (-9 * (rkc (σ 2) (σ9 0 44) + 1) ≤ v16 - 1000 ∧ v16 - 1000 ≤ 9 * (rkc (σ 2) (σ9 0 44) + 1)) ∧ rkc (σ 2) (σ9 0 44) < rkc (σ 2) code ∧ 0 ≤ rkc (σ 2) (σ9 0 44) := fun hne => by
              rcases hto with q | q
              · omega
              · have z := hp2 (σ9 0 44) q.1.1.1 q.1.1.2
                have y := rkc_b hp0.1 q.1
                rw [← hvv16] at z
                rcases z with z | z
                · exact absurd z hne
                · exact ⟨z, q.2, y.1⟩
            intro z17 t17 e17 l17 h17
            try have w17 : t17 = 0 := by omega
            have hmu : v14 * z17 = z17 ∨ v14 * z17 = -z17 := by
              rcases hts with q | q
              · left; rw [show v14 = 1 from by omega, Int.one_mul]
              · right; rw [show v14 = -1 from by omega, Int.neg_one_mul]
            intro z18 t18 e18 l18 h18
            try have w18 : t18 = 0 := by omega
            intro z19 t19 e19 l19 h19
            try have w19 : t19 = 0 := by omega
            refine And.intro (Nat.le_of_ble_eq_true rfl) ?_
            show xw _ _ _ _ _ _ _ _ _ _ [xvr 0, xvi code, xvi best, xvi kind, xvi z19] _ _
            refine And.intro (fun c20 => ?_) (fun c20 => ?_)
            · refine And.intro (Nat.le_of_ble_eq_true rfl) ?_
              show xw _ _ _ _ _ _ _ _ _ _ [xvr 0, xvi code, xvi z19, xvi kind, xvi z19] _ _
              have hF := hF.p (j := 47) (v := kind) (by decide)
              refine hX 400 118 _ _ ?_
              intro z22 t22 e22 l22 h22
              try have w22 : t22 = 0 := by omega
              show xw _ _ _ _ _ _ _ _ _ _ [xvr 0, xvi code, xvi z19, xvi z22, xvi z19] _ _
              exact ih_6 _ (show (3 - z22).toNat < m6 from by omega) z19 z22 (xvi z19) (xput σ9 0 47 kind) rfl ⟨hF, hs16, by omega, Or.inr (by omega)⟩
            · refine hX 400 118 _ _ ?_
              intro z23 t23 e23 l23 h23
              try have w23 : t23 = 0 := by omega
              show xw _ _ _ _ _ _ _ _ _ _ [xvr 0, xvi code, xvi best, xvi z23, xvi z19] _ _
              exact ih_6 _ (show (3 - z23).toNat < m6 from by omega) best z23 (xvi z19) σ9 rfl ⟨hF, hs16, by omega, (by
                        rcases hbest with c | c
                        · first
                          | exact Or.inr (by omega)
                          | exact Or.inl ⟨c.1, fun q hq => by
                              by_cases e : q = kind.toNat
                              · rw [e]; omega
                              · exact c.2 q (by omega)⟩
                        · exact Or.inr c)⟩
          · intro z24 t24 e24 l24 h24
            try have w24 : t24 = 0 := by omega
            refine And.intro (Nat.le_of_ble_eq_true rfl) ?_
            show xw _ _ _ _ _ _ _ _ _ _ [xvr 0, xvi code, xvi best, xvi kind, xvi z24] _ _
            refine And.intro (fun c25 => ?_) (fun c25 => ?_)
            · refine And.intro (Nat.le_of_ble_eq_true rfl) ?_
              show xw _ _ _ _ _ _ _ _ _ _ [xvr 0, xvi code, xvi z24, xvi kind, xvi z24] _ _
              have hF := hF.p (j := 47) (v := kind) (by decide)
              refine hX 400 118 _ _ ?_
              intro z27 t27 e27 l27 h27
              try have w27 : t27 = 0 := by omega
              show xw _ _ _ _ _ _ _ _ _ _ [xvr 0, xvi code, xvi z24, xvi z27, xvi z24] _ _
              exact ih_6 _ (show (3 - z27).toNat < m6 from by omega) z24 z27 (xvi z24) (xput σ9 0 47 kind) rfl ⟨hF, hs16, by omega, Or.inr (by omega)⟩
            · refine hX 400 118 _ _ ?_
              intro z28 t28 e28 l28 h28
              try have w28 : t28 = 0 := by omega
              show xw _ _ _ _ _ _ _ _ _ _ [xvr 0, xvi code, xvi best, xvi z28, xvi z24] _ _
              exact ih_6 _ (show (3 - z28).toNat < m6 from by omega) best z28 (xvi z24) σ9 rfl ⟨hF, hs16, by omega, (by
                        rcases hbest with c | c
                        · first
                          | exact Or.inr (by omega)
                          | exact Or.inl ⟨c.1, fun q hq => by
                              by_cases e : q = kind.toNat
                              · rw [e]; omega
                              · exact c.2 q (by omega)⟩
                        · exact Or.inr c)⟩
        intro v29 e29 l29 h29
        have e29 : v29 = σ9 0 44 := e29
        refine And.intro (fun c30 => ?_) (fun c30 => ?_)
        · exact lp_64 () (by left; omega)
        · intro v31 e31 l31 h31
          have e31 : v31 = σ9 0 44 := e31
          refine And.intro (rfl) (And.intro (⟨by omega, by omega⟩) ?_)
          intro v32 e32 l32 h32
          have e32 : v32 = σ9 16 v31.toNat := e32
          have hvv32 : v32 = σ 16 v31.toNat := by rw [e32, hs16]
          refine And.intro (fun c33 => ?_) (fun c33 => ?_)
          · exact lp_64 () (by first | (left; omega) | (right; rw [show σ9 0 44 = v31 from by omega]; omega))
          · intro v34 e34 l34 h34
            have e34 : v34 = σ9 0 44 := e34
            refine And.intro rfl ?_
            refine hQ _ _ hF (Or.inr ?_)
            rcases hto with q | q
            · omega
            · rw [show v34 = σ9 0 44 from by omega]
              refine ⟨q.1, q.2, ?_, hs16⟩
              rw [show (σ9 0 44) = v31 from by omega]
              omega
      · refine hX 400 118 _ _ ?_
        intro z35 t35 e35 l35 h35
        try have w35 : t35 = 0 := by omega
        show xw _ _ _ _ _ _ _ _ _ _ [xvr 0, xvi code, xvi best, xvi z35, u1_4] _ _
        exact ih_6 _ (show (3 - z35).toNat < m6 from by omega) best z35 (u1_4) σ6 rfl ⟨hF, hs16, by omega, (by
                  rcases hbest with c | c
                  · first
                    | exact Or.inr (by omega)
                    | exact Or.inl ⟨c.1, fun q hq => by
                        by_cases e : q = kind.toNat
                        · rw [e]; omega
                        · exact c.2 q (by omega)⟩
                  · exact Or.inr c)⟩
  exact lp_6 _ (-1000) 0 (xvu) σ rfl ⟨hF, rfl, by omega, Or.inl ⟨rfl, fun k hk => by omega⟩⟩
