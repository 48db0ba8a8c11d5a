set_option maxHeartbeats 4000000 in
set_option maxRecDepth 100000 in
theorem sX6_takeRun {σ : xS} {Q : Option xV → xS → Prop} (hp0 : 0 ≤ σ 0 4 ∧ σ 0 4 ≤ σ 0 2 ∧ σ 0 2 ≤ 940) (hQ : ∀ r : Int, ∀ σ' : xS, Fr [] [4, 5, 7, 8] σ σ' → ((0 ≤ σ' 0 4 ∧ σ' 0 4 ≤ σ 0 2) ∧ ((r = 1 ∧ (0 : Int) ≤ 0) ∨ (r = 0 ∧ σ' 0 4 = σ 0 4))) → Q (some (xvi r)) σ') : xT kX6_takeRun [xvr 0] σ Q := by
  refine ⟨Nat.le_of_ble_eq_true rfl, fun X hX => ?_⟩
  show X 0 [xvr 0, xvu, xvu, xvu, xvu] σ
  have hF : Fr [] [4, 5, 7, 8] σ σ := Fr.rf
  refine hX 400 0 _ _ ?_
  refine And.intro (Nat.le_of_ble_eq_true rfl) ?_
  show xw _ _ _ _ _ _ _ _ _ _ [xvr 0, xvi 0, xvu, xvu, xvu] _ _
  refine And.intro (Nat.le_of_ble_eq_true rfl) ?_
  show xw _ _ _ _ _ _ _ _ _ _ [xvr 0, xvi 0, xvi 0, xvu, xvu] _ _
  have hF := hF.p (j := 7) (v := 0) (by decide)
  have hF := hF.p (j := 8) (v := 0) (by decide)
  refine And.intro (Nat.le_of_ble_eq_true rfl) ?_
  show xw _ _ _ _ _ _ _ _ _ _ [xvr 0, xvi 0, xvi 0, xvi 1, xvu] _ _
  have lp_16 : ∀ (m16 : Nat) (le : Int) (di : Int) (inr : Int) (u3_4 : xV) (s1 : xS), ((2 * (σ 0 2 - s1 0 4) + inr).toNat) = m16 → (Fr [] [4, 5, 7, 8] σ s1 ∧ (s1 0 2 = σ 0 2 ∧ 0 ≤ le ∧ 0 ≤ di ∧ s1 0 4 = σ 0 4 + le + di ∧ s1 0 4 ≤ σ 0 2 ∧ (inr = 0 ∨ inr = 1))) → X 16 [xvr 0, xvi le, xvi di, xvi inr, u3_4] s1 := by
    intro m16
    induction m16 using Nat.strongRecOn with
    | _ m16 ih_16 =>
    intro le di inr u3_4 s1 hm_16 hv_16
    obtain ⟨hF, hv_16⟩ := hv_16
    refine hX 400 16 _ _ ?_
    have lp_162 : ∀ (_ : Unit), (True) → X 162 [xvr 0, xvi le, xvi di, xvi inr, u3_4] s1 := by
      intro _ hv_162
      refine hX 400 162 _ _ ?_
      have lp_210 : ∀ (s3 : xS), (Fr [] [4, 5, 7, 8] σ s3 ∧ s3 0 4 = s1 0 4) → X 210 [xvr 0, xvi le, xvi di, xvi inr, u3_4] s3 := by
        intro s3 hv_210
        obtain ⟨hF, h04⟩ := hv_210
        refine hX 400 210 _ _ ?_
        refine And.intro (Nat.le_of_ble_eq_true rfl) ?_
        show xw _ _ _ _ _ _ _ _ _ _ [xvr 0, xvi le, xvi di, xvi inr, xvi 0] _ _
        have lp_213 : ∀ (m213 : Nat) (w : Int) (s4 : xS), ((19 - w).toNat) = m213 → (Fr [] [4, 5, 7, 8] σ s4 ∧ s4 0 4 = s1 0 4 ∧ (0 ≤ w ∧ w ≤ 19)) → X 213 [xvr 0, xvi le, xvi di, xvi inr, xvi w] s4 := by
          intro m213
          induction m213 using Nat.strongRecOn with
          | _ m213 ih_213 =>
          intro w s4 hm_213 hv_213
          obtain ⟨hF, h04, hv_213⟩ := hv_213
          refine hX 400 213 _ _ ?_
          have lp_257 : ∀ (_ : Unit), (True) → X 257 [xvr 0, xvi le, xvi di, xvi inr, xvi w] s4 := by
            intro _ hv_257
            refine hX 400 257 _ _ ?_
            intro z8 t8 e8 l8 h8
            try have w8 : t8 = 0 := by omega
            refine And.intro (fun c9 => ?_) (fun c9 => ?_)
            · refine And.intro rfl ?_
              refine And.intro (by omega) ?_
              exact hQ _ _ hF (show (0 ≤ s4 0 4 ∧ s4 0 4 ≤ σ 0 2) ∧ ((0 = 1 ∧ (0 : Int) ≤ 0) ∨ (0 = 0 ∧ s4 0 4 = σ 0 4)) from by omega)
            · refine And.intro rfl ?_
              refine And.intro (by omega) ?_
              exact hQ _ _ hF (show (0 ≤ s4 0 4 ∧ s4 0 4 ≤ σ 0 2) ∧ ((1 = 1 ∧ (0 : Int) ≤ 0) ∨ (1 = 0 ∧ s4 0 4 = σ 0 4)) from by omega)
          refine And.intro (fun c10 => ?_) (fun c10 => ?_)
          · exact lp_257 () (show True from by first | trivial | omega | (refine ⟨by assumption, ?_⟩; omega) | (refine ⟨?_, ?_⟩ <;> omega))
          · intro v11 e11 l11 h11
            have e11 : v11 = s4 0 5 := e11
            refine And.intro (fun c12 => ?_) (fun c12 => ?_)
            · exact lp_257 () (show True from by first | trivial | omega | (refine ⟨by assumption, ?_⟩; omega) | (refine ⟨?_, ?_⟩ <;> omega))
            · refine And.intro (rfl) (And.intro (⟨by omega, by omega⟩) ?_)
              intro v13 e13 l13 h13
              have e13 : v13 = s4 1 w.toNat := e13
              intro v14 e14 l14 h14
              have e14 : v14 = s4 0 8 := e14
              intro z15 a15 b15 c15 l15 h15
              refine And.intro (fun c16 => ?_) (fun c16 => ?_)
              · refine hX 400 251 _ _ ?_
                intro z17 t17 e17 l17 h17
                try have w17 : t17 = 0 := by omega
                show xw _ _ _ _ _ _ _ _ _ _ [xvr 0, xvi le, xvi di, xvi inr, xvi z17] _ _
                exact ih_213 _ (show (19 - z17).toNat < m213 from by omega) z17 s4 rfl ⟨hF, h04, by omega⟩
              · have hF := hF.p (j := 5) (v := w) (by decide)
                refine hX 400 251 _ _ ?_
                intro z19 t19 e19 l19 h19
                try have w19 : t19 = 0 := by omega
                show xw _ _ _ _ _ _ _ _ _ _ [xvr 0, xvi le, xvi di, xvi inr, xvi z19] _ _
                exact ih_213 _ (show (19 - z19).toNat < m213 from by omega) z19 (xput s4 0 5 w) rfl ⟨hF, h04, by omega⟩
        exact lp_213 _ 0 s3 rfl ⟨hF, h04, by omega⟩
      refine And.intro (fun c20 => ?_) (fun c20 => ?_)
      · refine And.intro (fun c21 => ?_) (fun c21 => ?_)
        · have hF := hF.p (j := 5) (v := 303) (by decide)
          exact lp_210 (xput s1 0 5 303) ⟨hF, rfl⟩
        · have hF := hF.p (j := 5) (v := 301) (by decide)
          exact lp_210 (xput s1 0 5 301) ⟨hF, rfl⟩
      · refine And.intro (fun c24 => ?_) (fun c24 => ?_)
        · have hF := hF.p (j := 5) (v := 303) (by decide)
          exact lp_210 (xput s1 0 5 303) ⟨hF, rfl⟩
        · refine And.intro (fun c26 => ?_) (fun c26 => ?_)
          · have hF := hF.p (j := 5) (v := 303) (by decide)
            exact lp_210 (xput s1 0 5 303) ⟨hF, rfl⟩
          · have hF := hF.p (j := 5) (v := 300) (by decide)
            exact lp_210 (xput s1 0 5 300) ⟨hF, rfl⟩
    refine And.intro (fun c29 => ?_) (fun c29 => ?_)
    · exact lp_162 () (show True from by first | trivial | omega | (refine ⟨by assumption, ?_⟩; omega) | (refine ⟨?_, ?_⟩ <;> omega))
    · intro v30 e30 l30 h30
      have e30 : v30 = s1 0 4 := e30
      intro v31 e31 l31 h31
      have e31 : v31 = s1 0 2 := e31
      refine And.intro (fun c32 => ?_) (fun c32 => ?_)
      · exact lp_162 () (show True from by first | trivial | omega | (refine ⟨by assumption, ?_⟩; omega) | (refine ⟨?_, ?_⟩ <;> omega))
      · intro v33 e33 l33 h33
        have e33 : v33 = s1 0 4 := e33
        refine And.intro (Or.inl rfl) (And.intro (⟨by omega, by omega⟩) ?_)
        intro v34 e34 l34 h34
        have e34 : v34 = s1 2 v33.toNat := e34
        refine And.intro (Nat.le_of_ble_eq_true rfl) ?_
        show xw _ _ _ _ _ _ _ _ _ _ [xvr 0, xvi le, xvi di, xvi inr, xvi v34] _ _
        have lp_141 : ∀ (le2 : Int) (di2 : Int) (in2 : Int) (s2 : xS), (Fr [] [4, 5, 7, 8] σ s2 ∧ s2 0 2 = σ 0 2 ∧ s2 0 4 = s1 0 4 ∧ (0 ≤ le2 ∧ 0 ≤ di2 ∧ ((in2 = 1 ∧ le2 + di2 = le + di + 1) ∨ (in2 = 0 ∧ le2 = le ∧ di2 = di)))) → X 141 [xvr 0, xvi le2, xvi di2, xvi in2, xvi v34] s2 := by
          intro le2 di2 in2 s2 hv_141
          obtain ⟨hF, h02, h04, hv_141⟩ := hv_141
          refine hX 400 141 _ _ ?_
          intro v36 e36 l36 h36
          have e36 : v36 = s2 0 4 := e36
          refine And.intro (fun c37 => ?_) (fun c37 => ?_)
          · intro z38 t38 e38 l38 h38
            try have w38 : t38 = 0 := by omega
            have hF := hF.p (j := 4) (v := z38) (by decide)
            exact ih_16 _ (show (2 * (σ 0 2 - (z38)) + in2).toNat < m16 from by omega) le2 di2 in2 (xvi v34) (xput s2 0 4 z38) rfl ⟨hF, (show s2 0 2 = σ 0 2 ∧ 0 ≤ le2 ∧ 0 ≤ di2 ∧ z38 = σ 0 4 + le2 + di2 ∧ z38 ≤ σ 0 2 ∧ (in2 = 0 ∨ in2 = 1) from by omega)⟩
          · intro z40 t40 e40 l40 h40
            try have w40 : t40 = 0 := by omega
            have hF := hF.p (j := 4) (v := z40) (by decide)
            exact ih_16 _ (show (2 * (σ 0 2 - (z40)) + in2).toNat < m16 from by omega) le2 di2 in2 (xvi v34) (xput s2 0 4 z40) rfl ⟨hF, (show s2 0 2 = σ 0 2 ∧ 0 ≤ le2 ∧ 0 ≤ di2 ∧ z40 = σ 0 4 + le2 + di2 ∧ z40 ≤ σ 0 2 ∧ (in2 = 0 ∨ in2 = 1) from by omega)⟩
        refine And.intro (fun c42 => ?_) (fun c42 => ?_)
        · refine hX 400 93 _ _ ?_
          refine And.intro (fun c43 => ?_) (fun c43 => ?_)
          · refine hX 400 139 _ _ ?_
            refine And.intro (Nat.le_of_ble_eq_true rfl) ?_
            show xw _ _ _ _ _ _ _ _ _ _ [xvr 0, xvi le, xvi di, xvi 0, xvi v34] _ _
            exact lp_141 le di 0 s1 ⟨hF, (show s1 0 2 = σ 0 2 from by omega), (show s1 0 4 = s1 0 4 from rfl), by omega⟩
          · refine And.intro (fun c44 => ?_) (fun c44 => ?_)
            · refine hX 400 139 _ _ ?_
              refine And.intro (Nat.le_of_ble_eq_true rfl) ?_
              show xw _ _ _ _ _ _ _ _ _ _ [xvr 0, xvi le, xvi di, xvi 0, xvi v34] _ _
              exact lp_141 le di 0 s1 ⟨hF, (show s1 0 2 = σ 0 2 from by omega), (show s1 0 4 = s1 0 4 from rfl), by omega⟩
            · intro z45 t45 e45 l45 h45
              try have w45 : t45 = 0 := by omega
              show xw _ _ _ _ _ _ _ _ _ _ [xvr 0, xvi le, xvi z45, xvi inr, xvi v34] _ _
              refine And.intro (fun c46 => ?_) (fun c46 => ?_)
              · have hF := hF.p (j := 7) (v := 0) (by decide)
                exact lp_141 le z45 inr (xput s1 0 7 0) ⟨hF, (show s1 0 2 = σ 0 2 from by omega), (show s1 0 4 = s1 0 4 from rfl), by omega⟩
              · intro v48 e48 l48 h48
                have e48 : v48 = s1 0 7 := e48
                intro z49 t49 e49 l49 h49
                try have w49 : t49 = 0 := by omega
                intro z50 t50 e50 l50 h50
                try have w50 : t50 = 0 := by omega
                intro z51 t51 e51 l51 h51
                try have w51 : t51 = 0 := by omega
                have hF := hF.p (j := 7) (v := z51) (by decide)
                exact lp_141 le z45 inr (xput s1 0 7 z51) ⟨hF, (show s1 0 2 = σ 0 2 from by omega), (show s1 0 4 = s1 0 4 from rfl), by omega⟩
        · refine And.intro (fun c53 => ?_) (fun c53 => ?_)
          · refine hX 400 93 _ _ ?_
            refine And.intro (fun c54 => ?_) (fun c54 => ?_)
            · refine hX 400 139 _ _ ?_
              refine And.intro (Nat.le_of_ble_eq_true rfl) ?_
              show xw _ _ _ _ _ _ _ _ _ _ [xvr 0, xvi le, xvi di, xvi 0, xvi v34] _ _
              exact lp_141 le di 0 s1 ⟨hF, (show s1 0 2 = σ 0 2 from by omega), (show s1 0 4 = s1 0 4 from rfl), by omega⟩
            · refine And.intro (fun c55 => ?_) (fun c55 => ?_)
              · refine hX 400 139 _ _ ?_
                refine And.intro (Nat.le_of_ble_eq_true rfl) ?_
                show xw _ _ _ _ _ _ _ _ _ _ [xvr 0, xvi le, xvi di, xvi 0, xvi v34] _ _
                exact lp_141 le di 0 s1 ⟨hF, (show s1 0 2 = σ 0 2 from by omega), (show s1 0 4 = s1 0 4 from rfl), by omega⟩
              · intro z56 t56 e56 l56 h56
                try have w56 : t56 = 0 := by omega
                show xw _ _ _ _ _ _ _ _ _ _ [xvr 0, xvi le, xvi z56, xvi inr, xvi v34] _ _
                refine And.intro (fun c57 => ?_) (fun c57 => ?_)
                · have hF := hF.p (j := 7) (v := 0) (by decide)
                  exact lp_141 le z56 inr (xput s1 0 7 0) ⟨hF, (show s1 0 2 = σ 0 2 from by omega), (show s1 0 4 = s1 0 4 from rfl), by omega⟩
                · intro v59 e59 l59 h59
                  have e59 : v59 = s1 0 7 := e59
                  intro z60 t60 e60 l60 h60
                  try have w60 : t60 = 0 := by omega
                  intro z61 t61 e61 l61 h61
                  try have w61 : t61 = 0 := by omega
                  intro z62 t62 e62 l62 h62
                  try have w62 : t62 = 0 := by omega
                  have hF := hF.p (j := 7) (v := z62) (by decide)
                  exact lp_141 le z56 inr (xput s1 0 7 z62) ⟨hF, (show s1 0 2 = σ 0 2 from by omega), (show s1 0 4 = s1 0 4 from rfl), by omega⟩
          · intro z64 t64 e64 l64 h64
            try have w64 : t64 = 0 := by omega
            show xw _ _ _ _ _ _ _ _ _ _ [xvr 0, xvi z64, xvi di, xvi inr, xvi v34] _ _
            refine And.intro (fun c65 => ?_) (fun c65 => ?_)
            · have hF := hF.p (j := 8) (v := 0) (by decide)
              exact lp_141 z64 di inr (xput s1 0 8 0) ⟨hF, (show s1 0 2 = σ 0 2 from by omega), (show s1 0 4 = s1 0 4 from rfl), by omega⟩
            · intro v67 e67 l67 h67
              have e67 : v67 = s1 0 8 := e67
              intro z68 t68 e68 l68 h68
              try have w68 : t68 = 0 := by omega
              intro z69 t69 e69 l69 h69
              try have w69 : t69 = 0 := by omega
              intro z70 t70 e70 l70 h70
              try have w70 : t70 = 0 := by omega
              intro z71 t71 e71 l71 h71
              try have w71 : t71 = 0 := by omega
              have hF := hF.p (j := 8) (v := z71) (by decide)
              exact lp_141 z64 di inr (xput s1 0 8 z71) ⟨hF, (show s1 0 2 = σ 0 2 from by omega), (show s1 0 4 = s1 0 4 from rfl), by omega⟩
  exact lp_16 _ 0 0 1 (xvu) (xput (xput σ 0 7 0) 0 8 0) rfl ⟨hF, (show σ 0 2 = σ 0 2 ∧ (0 : Int) ≤ 0 ∧ (0 : Int) ≤ 0 ∧ σ 0 4 = σ 0 4 + 0 + 0 ∧ σ 0 4 ≤ σ 0 2 ∧ ((1 : Int) = 0 ∨ (1 : Int) = 1) from by omega)⟩
set_option maxHeartbeats 4000000 in
set_option maxRecDepth 100000 in
theorem sX6_advance {σ : xS} {Q : Option xV → xS → Prop} (hp0 : 0 ≤ σ 0 4 ∧ σ 0 4 ≤ σ 0 2 ∧ σ 0 2 ≤ 940) (hQ : ∀ σ' : xS, Fr [] [4, 5, 6, 7, 8] σ σ' → (0 ≤ σ' 0 4 ∧ σ' 0 4 ≤ σ 0 2) → Q none σ') : xT kX6_advance [xvr 0] σ Q := by
  refine ⟨Nat.le_of_ble_eq_true rfl, fun X hX => ?_⟩
  show X 0 [xvr 0, xvu, xvu] σ
  have hF : Fr [] [4, 5, 6, 7, 8] σ σ := Fr.rf
  have lp_0 : ∀ (m0 : Nat) (s1 : xS), ((σ 0 2 - s1 0 4).toNat) = m0 → (Fr [] [4, 5, 6, 7, 8] σ s1 ∧ (s1 0 2 = σ 0 2 ∧ 0 ≤ s1 0 4 ∧ s1 0 4 ≤ σ 0 2)) → X 0 [xvr 0, xvu, xvu] s1 := by
    intro m0
    induction m0 using Nat.strongRecOn with
    | _ m0 ih_0 =>
    intro s1 hm_0 hv_0
    obtain ⟨hF, hv_0⟩ := hv_0
    refine hX 400 0 _ _ ?_
    have lp_39 : ∀ (_ : Unit), (s1 0 4 < s1 0 2) → X 39 [xvr 0, xvu, xvu] s1 := by
      intro _ hv_39
      refine hX 400 39 _ _ ?_
      intro v3 e3 l3 h3
      have e3 : v3 = s1 0 4 := e3
      intro z4 t4 e4 l4 h4
      try have w4 : t4 = 0 := by omega
      have hF := hF.p (j := 4) (v := z4) (by decide)
      exact ih_0 _ (show (σ 0 2 - (z4)).toNat < m0 from by omega) (xput s1 0 4 z4) rfl ⟨hF, (show s1 0 2 = σ 0 2 ∧ 0 ≤ z4 ∧ z4 ≤ σ 0 2 from by omega)⟩
    have lp_52 : ∀ (_ : Unit), (True) → X 52 [xvr 0, xvu, xvu] s1 := by
      intro _ hv_52
      refine hX 400 52 _ _ ?_
      intro v7 e7 l7 h7
      have e7 : v7 = s1 0 4 := e7
      have hF := hF.p (j := 6) (v := v7) (by decide)
      have lp_100 : ∀ (_ : Unit), (True) → X 100 [xvr 0, xvu, xvu] (xput s1 0 6 v7) := by
        intro _ hv_100
        refine hX 400 100 _ _ ?_
        intro v10 e10 l10 h10
        have e10 : v10 = s1 0 4 := e10
        intro v11 e11 l11 h11
        have e11 : v11 = s1 0 2 := e11
        refine And.intro (fun c12 => ?_) (fun c12 => ?_)
        · refine sX6_takeRun (σ := (xput s1 0 6 v7)) (show 0 ≤ s1 0 4 ∧ s1 0 4 ≤ s1 0 2 ∧ s1 0 2 ≤ 940 from by omega) (fun r13 σ13 f13 p13 => ?_)
          have p13 : (0 ≤ σ13 0 4 ∧ σ13 0 4 ≤ s1 0 2) ∧ ((r13 = 1 ∧ (0 : Int) ≤ 0) ∨ (r13 = 0 ∧ σ13 0 4 = s1 0 4)) := p13
          have hF := hF.tr f13 (by decide) (by decide)
          have k02 : σ13 0 2 = s1 0 2 := f13.2 2 (by decide)
          refine And.intro (fun c14 => ?_) (fun c14 => ?_)
          · refine hX 400 205 _ _ ?_
            refine And.intro rfl (And.intro rfl ?_)
            exact hQ _ hF (show 0 ≤ σ13 0 4 ∧ σ13 0 4 ≤ σ 0 2 from by omega)
          · intro v15 e15 l15 h15
            have e15 : v15 = σ13 0 4 := e15
            refine And.intro (Or.inl rfl) (And.intro (⟨by omega, by omega⟩) ?_)
            intro v16 e16 l16 h16
            have e16 : v16 = σ13 2 v15.toNat := e16
            refine And.intro (Nat.le_of_ble_eq_true rfl) ?_
            show xw _ _ _ _ _ _ _ _ _ _ [xvr 0, xvi v16, xvu] _ _
            have lp_174 : ∀ (_ : Unit), (True) → X 174 [xvr 0, xvi v16, xvu] σ13 := by
              intro _ hv_174
              refine hX 400 174 _ _ ?_
              refine And.intro (Nat.le_of_ble_eq_true rfl) ?_
              show xw _ _ _ _ _ _ _ _ _ _ [xvr 0, xvi v16, xvi 1] _ _
              refine And.intro (fun c18 => absurd c18 (by decide)) (fun _ => ?_)
              have hF := hF.p (j := 5) (v := v16) (by decide)
              intro v20 e20 l20 h20
              have e20 : v20 = σ13 0 4 := e20
              intro z21 t21 e21 l21 h21
              try have w21 : t21 = 0 := by omega
              have hF := hF.p (j := 4) (v := z21) (by decide)
              refine hX 400 205 _ _ ?_
              refine And.intro rfl (And.intro rfl ?_)
              exact hQ _ hF (show 0 ≤ z21 ∧ z21 ≤ σ 0 2 from by omega)
            refine And.intro (fun c23 => ?_) (fun c23 => ?_)
            · exact lp_174 () (show True from by first | trivial | omega | (refine ⟨by assumption, ?_⟩; omega) | (refine ⟨?_, ?_⟩ <;> omega))
            · refine And.intro (fun c24 => ?_) (fun c24 => ?_)
              · exact lp_174 () (show True from by first | trivial | omega | (refine ⟨by assumption, ?_⟩; omega) | (refine ⟨?_, ?_⟩ <;> omega))
              · refine And.intro (fun c25 => ?_) (fun c25 => ?_)
                · exact lp_174 () (show True from by first | trivial | omega | (refine ⟨by assumption, ?_⟩; omega) | (refine ⟨?_, ?_⟩ <;> omega))
                · refine And.intro (fun c26 => ?_) (fun c26 => ?_)
                  · exact lp_174 () (show True from by first | trivial | omega | (refine ⟨by assumption, ?_⟩; omega) | (refine ⟨?_, ?_⟩ <;> omega))
                  · refine And.intro (fun c27 => ?_) (fun c27 => ?_)
                    · exact lp_174 () (show True from by first | trivial | omega | (refine ⟨by assumption, ?_⟩; omega) | (refine ⟨?_, ?_⟩ <;> omega))
                    · refine And.intro (fun c28 => ?_) (fun c28 => ?_)
                      · refine And.intro (Nat.le_of_ble_eq_true rfl) ?_
                        show xw _ _ _ _ _ _ _ _ _ _ [xvr 0, xvi v16, xvi 0] _ _
                        refine And.intro (fun _ => ?_) (fun c29 => absurd (by decide) c29)
                        have hF := hF.p (j := 5) (v := 303) (by decide)
                        intro v31 e31 l31 h31
                        have e31 : v31 = σ13 0 4 := e31
                        intro z32 t32 e32 l32 h32
                        try have w32 : t32 = 0 := by omega
                        have hF := hF.p (j := 4) (v := z32) (by decide)
                        refine hX 400 205 _ _ ?_
                        refine And.intro rfl (And.intro rfl ?_)
                        exact hQ _ hF (show 0 ≤ z32 ∧ z32 ≤ σ 0 2 from by omega)
                      · exact lp_174 () (show True from by first | trivial | omega | (refine ⟨by assumption, ?_⟩; omega) | (refine ⟨?_, ?_⟩ <;> omega))
        · have hF := hF.p (j := 5) (v := 302) (by decide)
          refine hX 400 205 _ _ ?_
          refine And.intro rfl (And.intro rfl ?_)
          exact hQ _ hF (show 0 ≤ s1 0 4 ∧ s1 0 4 ≤ σ 0 2 from by omega)
      intro v35 e35 l35 h35
      have e35 : v35 = s1 0 2 := e35
      intro v36 e36 l36 h36
      have e36 : v36 = s1 0 3 := e36
      refine And.intro (fun c37 => ?_) (fun c37 => ?_)
      · exact lp_100 () (show True from by first | trivial | omega | (refine ⟨by assumption, ?_⟩; omega) | (refine ⟨?_, ?_⟩ <;> omega))
      · intro v38 e38 l38 h38
        have e38 : v38 = s1 0 4 := e38
        intro v39 e39 l39 h39
        have e39 : v39 = s1 0 3 := e39
        refine And.intro (fun c40 => ?_) (fun c40 => ?_)
        · exact lp_100 () (show True from by first | trivial | omega | (refine ⟨by assumption, ?_⟩; omega) | (refine ⟨?_, ?_⟩ <;> omega))
        · intro v41 e41 l41 h41
          have e41 : v41 = s1 0 3 := e41
          have hF := hF.p (j := 6) (v := v41) (by decide)
          have hF := hF.p (j := 5) (v := 303) (by decide)
          refine hX 400 205 _ _ ?_
          refine And.intro rfl (And.intro rfl ?_)
          exact hQ _ hF (show 0 ≤ s1 0 4 ∧ s1 0 4 ≤ σ 0 2 from by omega)
    intro v44 e44 l44 h44
    have e44 : v44 = s1 0 4 := e44
    intro v45 e45 l45 h45
    have e45 : v45 = s1 0 2 := e45
    refine And.intro (fun c46 => ?_) (fun c46 => ?_)
    · exact lp_52 () (show True from by first | trivial | omega | (refine ⟨by assumption, ?_⟩; omega) | (refine ⟨?_, ?_⟩ <;> omega))
    · intro v47 e47 l47 h47
      have e47 : v47 = s1 0 4 := e47
      refine And.intro (Or.inl rfl) (And.intro (⟨by omega, by omega⟩) ?_)
      intro v48 e48 l48 h48
      have e48 : v48 = s1 2 v47.toNat := e48
      refine And.intro (fun c49 => ?_) (fun c49 => ?_)
      · exact lp_39 () (show s1 0 4 < s1 0 2 from by first | trivial | omega | (refine ⟨by assumption, ?_⟩; omega) | (refine ⟨?_, ?_⟩ <;> omega))
      · intro v50 e50 l50 h50
        have e50 : v50 = s1 0 4 := e50
        refine And.intro (Or.inl rfl) (And.intro (⟨by omega, by omega⟩) ?_)
        intro v51 e51 l51 h51
        have e51 : v51 = s1 2 v50.toNat := e51
        refine And.intro (fun c52 => ?_) (fun c52 => ?_)
        · exact lp_52 () (show True from by first | trivial | omega | (refine ⟨by assumption, ?_⟩; omega) | (refine ⟨?_, ?_⟩ <;> omega))
        · exact lp_39 () (show s1 0 4 < s1 0 2 from by first | trivial | omega | (refine ⟨by assumption, ?_⟩; omega) | (refine ⟨?_, ?_⟩ <;> omega))
  exact lp_0 _ σ rfl ⟨hF, by omega⟩
set_option maxHeartbeats 4000000 in
set_option maxRecDepth 100000 in
theorem sX6_isAt {σ : xS} {wanted : Int} {Q : Option xV → xS → Prop} (hQ : ∀ r : Int, ((r = 1 ∧ σ 0 5 = wanted) ∨ (r = 0 ∧ ¬ σ 0 5 = wanted)) → Q (some (xvi r)) σ) : xT kX6_isAt [xvr 0, xvi wanted] σ Q := by
  refine ⟨Nat.le_of_ble_eq_true rfl, fun X hX => ?_⟩
  show X 0 [xvr 0, xvi wanted] σ
  refine hX 400 0 _ _ ?_
  intro v1 e1 l1 h1
  have e1 : v1 = σ 0 5 := e1
  refine And.intro (fun c2 => ?_) (fun c2 => ?_)
  · refine And.intro rfl ?_
    refine And.intro (by omega) ?_
    exact hQ _ (show (0 = 1 ∧ σ 0 5 = wanted) ∨ (0 = 0 ∧ ¬ σ 0 5 = wanted) from by first | trivial | omega)
  · refine And.intro rfl ?_
    refine And.intro (by omega) ?_
    exact hQ _ (show (1 = 1 ∧ σ 0 5 = wanted) ∨ (1 = 0 ∧ ¬ σ 0 5 = wanted) from by first | trivial | omega)
set_option maxHeartbeats 4000000 in
set_option maxRecDepth 100000 in
theorem sX6_fail {σ : xS} {kind : Int} {Q : Option xV → xS → Prop} (hQ : ∀ r : Int, ∀ σ' : xS, Fr [] [9, 10] σ σ' → (r = 0) → Q (some (xvi r)) σ') : xT kX6_fail [xvr 0, xvi kind] σ Q := by
  refine ⟨Nat.le_of_ble_eq_true rfl, fun X hX => ?_⟩
  show X 0 [xvr 0, xvi kind] σ
  have hF : Fr [] [9, 10] σ σ := Fr.rf
  refine hX 400 0 _ _ ?_
  intro v1 e1 l1 h1
  have e1 : v1 = σ 0 9 := e1
  refine And.intro (fun c2 => ?_) (fun c2 => ?_)
  · refine hX 400 20 _ _ ?_
    refine And.intro rfl ?_
    refine And.intro (by omega) ?_
    exact hQ _ _ hF (by omega)
  · have hF := hF.p (j := 9) (v := kind) (by decide)
    intro v4 e4 l4 h4
    have e4 : v4 = σ 0 6 := e4
    have hF := hF.p (j := 10) (v := v4) (by decide)
    refine hX 400 20 _ _ ?_
    refine And.intro rfl ?_
    refine And.intro (by omega) ?_
    exact hQ _ _ hF (by omega)
set_option maxHeartbeats 4000000 in
set_option maxRecDepth 100000 in
theorem sX6_pass {σ : xS} {wanted : Int} {Q : Option xV → xS → Prop} (hp0 : 0 ≤ σ 0 4 ∧ σ 0 4 ≤ σ 0 2 ∧ σ 0 2 ≤ 940) (hQ : ∀ r : Int, ∀ σ' : xS, Fr [] [4, 5, 6, 7, 8, 9, 10] σ σ' → ((0 ≤ σ' 0 4 ∧ σ' 0 4 ≤ σ 0 2) ∧ (r = 0 ∨ r = 1)) → Q (some (xvi r)) σ') : xT kX6_pass [xvr 0, xvi wanted] σ Q := by
  refine ⟨Nat.le_of_ble_eq_true rfl, fun X hX => ?_⟩
  show X 0 [xvr 0, xvi wanted] σ
  have hF : Fr [] [4, 5, 6, 7, 8, 9, 10] σ σ := Fr.rf
  refine hX 400 0 _ _ ?_
  refine sX6_isAt (σ := σ) (wanted := wanted)  (fun r1 p1 => ?_)
  have p1 : (r1 = 1 ∧ (σ 0 5) = wanted) ∨ (r1 = 0 ∧ ¬ (σ 0 5) = wanted) := p1
  refine And.intro (fun c2 => ?_) (fun c2 => ?_)
  · replace p1 : (σ 0 5) = wanted := by
      rcases p1 with q | q
      · exact q.2
      · exact absurd q.1 (by omega)
    refine sX6_advance (σ := σ)  (show 0 ≤ (σ 0 4) ∧ (σ 0 4) ≤ (σ 0 2) ∧ (σ 0 2) ≤ 940 from by omega) (fun σ3 f3 p3 => ?_)
    have hF := hF.tr f3 (by decide) (by decide)
    have p3 : 0 ≤ σ3 0 4 ∧ σ3 0 4 ≤ (σ 0 2) := p3
    refine And.intro rfl ?_
    refine And.intro (by omega) ?_
    exact hQ _ _ hF (show (0 ≤ σ3 0 4 ∧ σ3 0 4 ≤ σ 0 2) ∧ (1 = 0 ∨ 1 = 1) from by omega)
  · replace p1 : ¬ (σ 0 5) = wanted := by
      rcases p1 with q | q
      · exact absurd q.1 (by omega)
      · exact q.2
    refine sX6_fail (σ := σ) (kind := 1) (fun r4 σ4 f4 p4 => ?_)
    have hF := hF.tr f4 (by decide) (by decide)
    have kf2_4 : σ4 0 2 = σ 0 2 := f4.2 2 (by decide)
    have kf4_4 : σ4 0 4 = σ 0 4 := f4.2 4 (by decide)
    have kf7_4 : σ4 0 7 = σ 0 7 := f4.2 7 (by decide)
    have kf8_4 : σ4 0 8 = σ 0 8 := f4.2 8 (by decide)
    refine And.intro rfl ?_
    refine And.intro (by omega) ?_
    exact hQ _ _ hF (show (0 ≤ σ4 0 4 ∧ σ4 0 4 ≤ σ 0 2) ∧ (r4 = 0 ∨ r4 = 1) from by omega)
set_option maxHeartbeats 4000000 in
set_option maxRecDepth 100000 in
theorem sX6_isNumber {σ : xS} {least greatest : Int} {Q : Option xV → xS → Prop} (hQ : ∀ r : Int, ∀ σ' : xS, Fr [] [9, 10] σ σ' → ((r = 1 ∧ least ≤ σ 0 7 ∧ σ 0 7 ≤ greatest) ∨ (r = 0 ∧ (0 : Int) ≤ 0)) → Q (some (xvi r)) σ') : xT kX6_isNumber [xvr 0, xvi least, xvi greatest] σ Q := by
  refine ⟨Nat.le_of_ble_eq_true rfl, fun X hX => ?_⟩
  show X 0 [xvr 0, xvi least, xvi greatest] σ
  have hF : Fr [] [9, 10] σ σ := Fr.rf
  refine hX 400 0 _ _ ?_
  refine sX6_isAt (σ := σ) (wanted := 301)  (fun r1 p1 => ?_)
  have p1 : (r1 = 1 ∧ (σ 0 5) = 301) ∨ (r1 = 0 ∧ ¬ (σ 0 5) = 301) := p1
  refine And.intro (fun c2 => ?_) (fun c2 => ?_)
  · replace p1 : (σ 0 5) = 301 := by
      rcases p1 with q | q
      · exact q.2
      · exact absurd q.1 (by omega)
    have lp_32 : ∀ (_ : Unit), (True) → X 32 [xvr 0, xvi least, xvi greatest] σ := by
      intro _ hv_32
      refine hX 400 32 _ _ ?_
      refine sX6_fail (σ := σ) (kind := 2) (fun r4 σ4 f4 p4 => ?_)
      have hF := hF.tr f4 (by decide) (by decide)
      have kf2_4 : σ4 0 2 = σ 0 2 := f4.2 2 (by decide)
      have kf4_4 : σ4 0 4 = σ 0 4 := f4.2 4 (by decide)
      have kf7_4 : σ4 0 7 = σ 0 7 := f4.2 7 (by decide)
      have kf8_4 : σ4 0 8 = σ 0 8 := f4.2 8 (by decide)
      refine And.intro (fun c5 => ?_) (fun c5 => ?_)
      · refine And.intro rfl ?_
        refine And.intro (by omega) ?_
        exact hQ _ _ hF (by omega)
      · refine hX 400 40 _ _ ?_
        refine And.intro rfl ?_
        refine And.intro (by omega) ?_
        exact hQ _ _ hF (by omega)
    intro v6 e6 l6 h6
    have e6 : v6 = σ 0 7 := e6
    refine And.intro (fun c7 => ?_) (fun c7 => ?_)
    · exact lp_32 () (show True from by first | trivial | omega | (refine ⟨by assumption, ?_⟩; omega) | (refine ⟨?_, ?_⟩ <;> omega))
    · intro v8 e8 l8 h8
      have e8 : v8 = σ 0 7 := e8
      refine And.intro (fun c9 => ?_) (fun c9 => ?_)
      · refine hX 400 40 _ _ ?_
        refine And.intro rfl ?_
        refine And.intro (by omega) ?_
        exact hQ _ _ hF (by omega)
      · exact lp_32 () (show True from by first | trivial | omega | (refine ⟨by assumption, ?_⟩; omega) | (refine ⟨?_, ?_⟩ <;> omega))
  · replace p1 : ¬ (σ 0 5) = 301 := by
      rcases p1 with q | q
      · exact absurd q.1 (by omega)
      · exact q.2
    refine sX6_fail (σ := σ) (kind := 1) (fun r10 σ10 f10 p10 => ?_)
    have hF := hF.tr f10 (by decide) (by decide)
    have kf2_10 : σ10 0 2 = σ 0 2 := f10.2 2 (by decide)
    have kf4_10 : σ10 0 4 = σ 0 4 := f10.2 4 (by decide)
    have kf7_10 : σ10 0 7 = σ 0 7 := f10.2 7 (by decide)
    have kf8_10 : σ10 0 8 = σ 0 8 := f10.2 8 (by decide)
    refine And.intro rfl ?_
    refine And.intro (by omega) ?_
    exact hQ _ _ hF (by omega)
set_option maxHeartbeats 4000000 in
set_option maxRecDepth 100000 in
theorem sX2_findE {σ : xS} {name : Int} {Q : Option xV → xS → Prop} (hp0 : 0 ≤ σ 0 1 ∧ σ 0 1 ≤ 6) (hQ : ∀ r : Int, ((r = -1 ∧ ∀ q : Nat, (q : Int) < σ 0 1 → ¬ σ 1 q = name) ∨ (0 ≤ r ∧ r < σ 0 1 ∧ σ 1 r.toNat = name)) → Q (some (xvi r)) σ) : xT kX2_find [xvr 0, xvl name] σ Q := by
  refine ⟨Nat.le_of_ble_eq_true rfl, fun X hX => ?_⟩
  show X 0 [xvr 0, xvl name, xvu, xvu] σ
  refine hX 400 0 _ _ ?_
  refine And.intro (Nat.le_of_ble_eq_true rfl) ?_
  show xw _ _ _ _ _ _ _ _ _ _ [xvr 0, xvl name, xvu, xvi 0] _ _
  have lp_2 : ∀ (m2 : Nat) (p : Int), ((6 - p).toNat) = m2 → (0 ≤ p ∧ (∀ q : Nat, (q : Int) < p → ¬ σ 1 q = name)) → X 2 [xvr 0, xvl name, xvu, xvi p] σ := by
    intro m2
    induction m2 using Nat.strongRecOn with
    | _ m2 ih_2 =>
    intro p hm_2 hv_2
    obtain ⟨hv_2, hnq⟩ := hv_2
    refine hX 400 2 _ _ ?_
    intro v2 e2 l2 h2
    have e2 : v2 = σ 0 1 := e2
    refine And.intro (fun c3 => ?_) (fun c3 => ?_)
    · refine And.intro rfl ?_
      exact hQ _ (Or.inl ⟨rfl, fun q hq => hnq q (by omega)⟩)
    · refine And.intro (rfl) (And.intro (⟨by omega, by omega⟩) ?_)
      intro v4 e4 l4 h4
      have e4 : v4 = σ 1 p.toNat := e4
      intro z5 a5 b5 c5 l5 h5
      refine And.intro (fun c6 => ?_) (fun c6 => ?_)
      · intro z7 t7 e7 l7 h7
        try have w7 : t7 = 0 := by omega
        show xw _ _ _ _ _ _ _ _ _ _ [xvr 0, xvl name, xvu, xvi z7] _ _
        exact ih_2 _ (show (6 - z7).toNat < m2 from by omega) z7 rfl ⟨by omega, (fun q hq => by
                by_cases e : q = p.toNat
                · rw [e]; omega
                · exact hnq q (by omega))⟩
      · refine And.intro rfl ?_
        exact hQ _ (Or.inr ⟨by omega, by omega, by omega⟩)
  exact lp_2 _ 0 rfl ⟨by omega, fun q hq => by omega⟩
