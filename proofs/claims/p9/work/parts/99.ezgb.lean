set_option maxHeartbeats 4000000 in
set_option maxRecDepth 100000 in
theorem sX6_takeRunF {σ : xS} {Q : Option xV → xS → Prop} (hp0 : 0 ≤ σ 0 4 ∧ σ 0 4 ≤ σ 0 2 ∧ σ 0 2 ≤ 940) (hQ : ∀ r : Int, ∀ σ' : xS, Fr [] [4, 5, 7, 8] σ σ' → ((0 ≤ σ' 0 4 ∧ σ' 0 4 ≤ σ 0 2) ∧ TRP (σ 2) (σ 1) (σ 0 4) (σ 0 2) r (σ' 0 4) (σ' 0 5) (σ' 0 7) (σ' 0 8)) → Q (some (xvi r)) σ') : xT kX6_takeRun [xvr 0] σ Q := by
  refine ⟨Nat.le_of_ble_eq_true rfl, fun X hX => ?_⟩
  show X 0 [xvr 0, xvu, xvu, xvu, xvu] σ
  have hF : Fr [] [4, 5, 7, 8] σ σ := Fr.rf
  refine hX 400 0 _ _ ?_
  refine And.intro (Nat.le_of_ble_eq_true rfl) ?_
  show xw _ _ _ _ _ _ _ _ _ _ [xvr 0, xvi 0, xvu, xvu, xvu] _ _
  refine And.intro (Nat.le_of_ble_eq_true rfl) ?_
  show xw _ _ _ _ _ _ _ _ _ _ [xvr 0, xvi 0, xvi 0, xvu, xvu] _ _
  have hF := hF.p (j := 7) (v := 0) (by decide)
  have hF := hF.p (j := 8) (v := 0) (by decide)
  refine And.intro (Nat.le_of_ble_eq_true rfl) ?_
  show xw _ _ _ _ _ _ _ _ _ _ [xvr 0, xvi 0, xvi 0, xvi 1, xvu] _ _
  have lp_16 : ∀ (m16 : Nat) (le : Int) (di : Int) (inr : Int) (u3_4 : xV) (s1 : xS), ((2 * (σ 0 2 - s1 0 4) + inr).toNat) = m16 → (Fr [] [4, 5, 7, 8] σ s1 ∧ (s1 0 2 = σ 0 2 ∧ 0 ≤ le ∧ 0 ≤ di ∧ s1 0 4 = σ 0 4 + le + di ∧ s1 0 4 ≤ σ 0 2 ∧ (inr = 0 ∨ inr = 1)) ∧ RS (σ 2) (σ 0 4).toNat (le + di).toNat le di (s1 0 8) (s1 0 7) ∧ RE (σ 2) (σ 0 4).toNat (le + di).toNat inr) → X 16 [xvr 0, xvi le, xvi di, xvi inr, u3_4] s1 := by
    intro m16
    induction m16 using Nat.strongRecOn with
    | _ m16 ih_16 =>
    intro le di inr u3_4 s1 hm_16 hv_16
    obtain ⟨hF, hv_16, hRS, hRE⟩ := hv_16
    refine hX 400 16 _ _ ?_
    have lp_162 : ∀ (_ : Unit), (inr = 0 ∨ σ 0 2 ≤ s1 0 4) → X 162 [xvr 0, xvi le, xvi di, xvi inr, u3_4] s1 := by
      intro _ hv_162
      have hE : s1 0 4 < σ 0 2 → ¬ alC (σ 2 ((σ 0 4).toNat + (le + di).toNat)) := fun hlt => hRE (by omega)
      refine hX 400 162 _ _ ?_
      have lp_210 : ∀ (s3 : xS), (Fr [] [4, 5, 7, 8] σ s3 ∧ (s3 0 4 = s1 0 4 ∧ s3 0 8 = s1 0 8 ∧ s3 0 7 = s1 0 7 ∧ ((0 < le ∧ di = 0 ∧ le ≤ 7 ∧ s3 0 5 = 300) ∨ (0 < le ∧ (¬ di = 0 ∨ 7 < le) ∧ s3 0 5 = 303) ∨ (le = 0 ∧ di ≤ 3 ∧ s3 0 5 = 301) ∨ (le = 0 ∧ 3 < di ∧ s3 0 5 = 303)))) → X 210 [xvr 0, xvi le, xvi di, xvi inr, u3_4] s3 := by
        intro s3 hv_210
        obtain ⟨hF, hv_210⟩ := hv_210
        refine hX 400 210 _ _ ?_
        refine And.intro (Nat.le_of_ble_eq_true rfl) ?_
        show xw _ _ _ _ _ _ _ _ _ _ [xvr 0, xvi le, xvi di, xvi inr, xvi 0] _ _
        have lp_213 : ∀ (m213 : Nat) (w : Int) (s4 : xS), ((19 - w).toNat) = m213 → (Fr [] [4, 5, 7, 8] σ s4 ∧ (s4 0 4 = s1 0 4 ∧ s4 0 8 = s1 0 8 ∧ s4 0 7 = s1 0 7 ∧ 0 ≤ w ∧ w ≤ 19) ∧ TKL (σ 1) (s1 0 8) (s3 0 5) (s4 0 5) w) → X 213 [xvr 0, xvi le, xvi di, xvi inr, xvi w] s4 := by
          intro m213
          induction m213 using Nat.strongRecOn with
          | _ m213 ih_213 =>
          intro w s4 hm_213 hv_213
          obtain ⟨hF, hv_213, hK⟩ := hv_213
          refine hX 400 213 _ _ ?_
          have lp_257 : ∀ (_ : Unit), (19 ≤ w ∨ ¬ s4 0 5 = 300) → X 257 [xvr 0, xvi le, xvi di, xvi inr, xvi w] s4 := by
            intro _ hv_257
            refine hX 400 257 _ _ ?_
            intro z8 t8 e8 l8 h8
            try have w8 : t8 = 0 := by omega
            refine And.intro (fun c9 => ?_) (fun c9 => ?_)
            · refine And.intro rfl ?_
              refine And.intro (by omega) ?_
              exact hQ _ _ hF ⟨(show 0 ≤ s4 0 4 ∧ s4 0 4 ≤ σ 0 2 from by omega), TRP.of (le := le) (di := di) (t3 := s3 0 5) (w := w) (by omega) (by rw [hv_213.2.1, hv_213.2.2.1]; exact hRS) (by omega) (by omega) (fun hlt => hE (by omega)) (by omega) (by rw [hv_213.2.1]; exact hK) (by omega) (by omega)⟩
            · refine And.intro rfl ?_
              refine And.intro (by omega) ?_
              exact hQ _ _ hF ⟨(show 0 ≤ s4 0 4 ∧ s4 0 4 ≤ σ 0 2 from by omega), TRP.of (le := le) (di := di) (t3 := s3 0 5) (w := w) (by omega) (by rw [hv_213.2.1, hv_213.2.2.1]; exact hRS) (by omega) (by omega) (fun hlt => hE (by omega)) (by omega) (by rw [hv_213.2.1]; exact hK) (by omega) (by omega)⟩
          refine And.intro (fun c10 => ?_) (fun c10 => ?_)
          · exact lp_257 () (show 19 ≤ w ∨ ¬ s4 0 5 = 300 from by first | trivial | omega | (refine ⟨by assumption, ?_⟩; omega) | (refine ⟨?_, ?_⟩ <;> omega))
          · intro v11 e11 l11 h11
            have e11 : v11 = s4 0 5 := e11
            refine And.intro (fun c12 => ?_) (fun c12 => ?_)
            · exact lp_257 () (show 19 ≤ w ∨ ¬ s4 0 5 = 300 from by first | trivial | omega | (refine ⟨by assumption, ?_⟩; omega) | (refine ⟨?_, ?_⟩ <;> omega))
            · refine And.intro (rfl) (And.intro (⟨by omega, by omega⟩) ?_)
              intro v13 e13 l13 h13
              have e13 : v13 = s4 1 w.toNat := e13
              rw [hF.1 1 (by decide) (by decide)] at e13
              intro v14 e14 l14 h14
              have e14 : v14 = s4 0 8 := e14
              intro z15 a15 b15 c15 l15 h15
              refine And.intro (fun c16 => ?_) (fun c16 => ?_)
              · refine hX 400 251 _ _ ?_
                intro z17 t17 e17 l17 h17
                try have w17 : t17 = 0 := by omega
                show xw _ _ _ _ _ _ _ _ _ _ [xvr 0, xvi le, xvi di, xvi inr, xvi z17] _ _
                exact ih_213 _ (show (19 - z17).toNat < m213 from by omega) z17 s4 rfl ⟨hF, (show s4 0 4 = s1 0 4 ∧ s4 0 8 = s1 0 8 ∧ s4 0 7 = s1 0 7 ∧ 0 ≤ z17 ∧ z17 ≤ 19 from by omega), (by rw [show z17 = w + 1 from by omega]; exact hK.n (by omega) (by omega) (by omega))⟩
              · have hF := hF.p (j := 5) (v := w) (by decide)
                refine hX 400 251 _ _ ?_
                intro z19 t19 e19 l19 h19
                try have w19 : t19 = 0 := by omega
                show xw _ _ _ _ _ _ _ _ _ _ [xvr 0, xvi le, xvi di, xvi inr, xvi z19] _ _
                exact ih_213 _ (show (19 - z19).toNat < m213 from by omega) z19 (xput s4 0 5 w) rfl ⟨hF, (show s4 0 4 = s1 0 4 ∧ s4 0 8 = s1 0 8 ∧ s4 0 7 = s1 0 7 ∧ 0 ≤ z19 ∧ z19 ≤ 19 from by omega), (by rw [show z19 = w + 1 from by omega]; exact hK.y (by omega) (by omega) (by omega) (by omega))⟩
        exact lp_213 _ 0 s3 rfl ⟨hF, by omega, TKL.z⟩
      refine And.intro (fun c20 => ?_) (fun c20 => ?_)
      · refine And.intro (fun c21 => ?_) (fun c21 => ?_)
        · have hF := hF.p (j := 5) (v := 303) (by decide)
          exact lp_210 (xput s1 0 5 303) ⟨hF, rfl, rfl, rfl, (show (0 < le ∧ di = 0 ∧ le ≤ 7 ∧ 303 = 300) ∨ (0 < le ∧ (¬ di = 0 ∨ 7 < le) ∧ 303 = 303) ∨ (le = 0 ∧ di ≤ 3 ∧ 303 = 301) ∨ (le = 0 ∧ 3 < di ∧ 303 = 303) from by omega)⟩
        · have hF := hF.p (j := 5) (v := 301) (by decide)
          exact lp_210 (xput s1 0 5 301) ⟨hF, rfl, rfl, rfl, (show (0 < le ∧ di = 0 ∧ le ≤ 7 ∧ 301 = 300) ∨ (0 < le ∧ (¬ di = 0 ∨ 7 < le) ∧ 301 = 303) ∨ (le = 0 ∧ di ≤ 3 ∧ 301 = 301) ∨ (le = 0 ∧ 3 < di ∧ 301 = 303) from by omega)⟩
      · refine And.intro (fun c24 => ?_) (fun c24 => ?_)
        · have hF := hF.p (j := 5) (v := 303) (by decide)
          exact lp_210 (xput s1 0 5 303) ⟨hF, rfl, rfl, rfl, (show (0 < le ∧ di = 0 ∧ le ≤ 7 ∧ 303 = 300) ∨ (0 < le ∧ (¬ di = 0 ∨ 7 < le) ∧ 303 = 303) ∨ (le = 0 ∧ di ≤ 3 ∧ 303 = 301) ∨ (le = 0 ∧ 3 < di ∧ 303 = 303) from by omega)⟩
        · refine And.intro (fun c26 => ?_) (fun c26 => ?_)
          · have hF := hF.p (j := 5) (v := 303) (by decide)
            exact lp_210 (xput s1 0 5 303) ⟨hF, rfl, rfl, rfl, (show (0 < le ∧ di = 0 ∧ le ≤ 7 ∧ 303 = 300) ∨ (0 < le ∧ (¬ di = 0 ∨ 7 < le) ∧ 303 = 303) ∨ (le = 0 ∧ di ≤ 3 ∧ 303 = 301) ∨ (le = 0 ∧ 3 < di ∧ 303 = 303) from by omega)⟩
          · have hF := hF.p (j := 5) (v := 300) (by decide)
            exact lp_210 (xput s1 0 5 300) ⟨hF, rfl, rfl, rfl, (show (0 < le ∧ di = 0 ∧ le ≤ 7 ∧ 300 = 300) ∨ (0 < le ∧ (¬ di = 0 ∨ 7 < le) ∧ 300 = 303) ∨ (le = 0 ∧ di ≤ 3 ∧ 300 = 301) ∨ (le = 0 ∧ 3 < di ∧ 300 = 303) from by omega)⟩
    refine And.intro (fun c29 => ?_) (fun c29 => ?_)
    · exact lp_162 () (show inr = 0 ∨ σ 0 2 ≤ s1 0 4 from by first | trivial | omega | (refine ⟨by assumption, ?_⟩; omega) | (refine ⟨?_, ?_⟩ <;> omega))
    · intro v30 e30 l30 h30
      have e30 : v30 = s1 0 4 := e30
      intro v31 e31 l31 h31
      have e31 : v31 = s1 0 2 := e31
      refine And.intro (fun c32 => ?_) (fun c32 => ?_)
      · exact lp_162 () (show inr = 0 ∨ σ 0 2 ≤ s1 0 4 from by first | trivial | omega | (refine ⟨by assumption, ?_⟩; omega) | (refine ⟨?_, ?_⟩ <;> omega))
      · intro v33 e33 l33 h33
        have e33 : v33 = s1 0 4 := e33
        refine And.intro (Or.inl rfl) (And.intro (⟨by omega, by omega⟩) ?_)
        intro v34 e34 l34 h34
        have e34 : v34 = s1 2 v33.toNat := e34
        have hc : v34 = σ 2 ((σ 0 4).toNat + (le + di).toNat) := by
          rw [e34, hF.1 2 (by decide) (by decide), show v33.toNat = (σ 0 4).toNat + (le + di).toNat from by omega]
        refine And.intro (Nat.le_of_ble_eq_true rfl) ?_
        show xw _ _ _ _ _ _ _ _ _ _ [xvr 0, xvi le, xvi di, xvi inr, xvi v34] _ _
        have lp_141 : ∀ (le2 : Int) (di2 : Int) (in2 : Int) (s2 : xS), (Fr [] [4, 5, 7, 8] σ s2 ∧ s2 0 2 = σ 0 2 ∧ s2 0 4 = s1 0 4 ∧ s1 0 4 < σ 0 2 ∧ (0 ≤ le2 ∧ 0 ≤ di2 ∧ ((in2 = 1 ∧ le2 + di2 = le + di + 1) ∨ (in2 = 0 ∧ le2 = le ∧ di2 = di))) ∧ RJ (σ 2) (σ 0 4).toNat (le + di).toNat le2 di2 (s2 0 8) (s2 0 7) in2) → X 141 [xvr 0, xvi le2, xvi di2, xvi in2, xvi v34] s2 := by
          intro le2 di2 in2 s2 hv_141
          obtain ⟨hF, h02, h04, h14, hv_141, hJ⟩ := hv_141
          refine hX 400 141 _ _ ?_
          intro v36 e36 l36 h36
          have e36 : v36 = s2 0 4 := e36
          refine And.intro (fun c37 => ?_) (fun c37 => ?_)
          · intro z38 t38 e38 l38 h38
            try have w38 : t38 = 0 := by omega
            have hF := hF.p (j := 4) (v := z38) (by decide)
            exact ih_16 _ (show (2 * (σ 0 2 - (z38)) + in2).toNat < m16 from by omega) le2 di2 in2 (xvi v34) (xput s2 0 4 z38) rfl ⟨hF, (show s2 0 2 = σ 0 2 ∧ 0 ≤ le2 ∧ 0 ≤ di2 ∧ z38 = σ 0 4 + le2 + di2 ∧ z38 ≤ σ 0 2 ∧ (in2 = 0 ∨ in2 = 1) from by omega), (by
                          by_cases hi : in2 = 1
                          · have e9 : (le2 + di2).toNat = (le + di).toNat + 1 := by omega
                            rw [e9]; exact hJ.1 hi
                          · have e9 : (le2 + di2).toNat = (le + di).toNat := by omega
                            rw [e9]; exact (hJ.2 (by omega)).1), (fun h0 => by
                          have e9 : (le2 + di2).toNat = (le + di).toNat := by omega
                          rw [e9]; exact (hJ.2 h0).2)⟩
          · intro z40 t40 e40 l40 h40
            try have w40 : t40 = 0 := by omega
            have hF := hF.p (j := 4) (v := z40) (by decide)
            exact ih_16 _ (show (2 * (σ 0 2 - (z40)) + in2).toNat < m16 from by omega) le2 di2 in2 (xvi v34) (xput s2 0 4 z40) rfl ⟨hF, (show s2 0 2 = σ 0 2 ∧ 0 ≤ le2 ∧ 0 ≤ di2 ∧ z40 = σ 0 4 + le2 + di2 ∧ z40 ≤ σ 0 2 ∧ (in2 = 0 ∨ in2 = 1) from by omega), (by
                          by_cases hi : in2 = 1
                          · have e9 : (le2 + di2).toNat = (le + di).toNat + 1 := by omega
                            rw [e9]; exact hJ.1 hi
                          · have e9 : (le2 + di2).toNat = (le + di).toNat := by omega
                            rw [e9]; exact (hJ.2 (by omega)).1), (fun h0 => by
                          have e9 : (le2 + di2).toNat = (le + di).toNat := by omega
                          rw [e9]; exact (hJ.2 h0).2)⟩
        refine And.intro (fun c42 => ?_) (fun c42 => ?_)
        · refine hX 400 93 _ _ ?_
          refine And.intro (fun c43 => ?_) (fun c43 => ?_)
          · refine hX 400 139 _ _ ?_
            refine And.intro (Nat.le_of_ble_eq_true rfl) ?_
            show xw _ _ _ _ _ _ _ _ _ _ [xvr 0, xvi le, xvi di, xvi 0, xvi v34] _ _
            exact lp_141 le di 0 s1 ⟨hF, (show s1 0 2 = σ 0 2 from by omega), rfl, by omega, by omega, ⟨fun h => absurd h (by decide), fun _ => ⟨hRS, (by rw [← hc]; intro h; unfold alC smC dgC at h; omega)⟩⟩⟩
          · refine And.intro (fun c44 => ?_) (fun c44 => ?_)
            · refine hX 400 139 _ _ ?_
              refine And.intro (Nat.le_of_ble_eq_true rfl) ?_
              show xw _ _ _ _ _ _ _ _ _ _ [xvr 0, xvi le, xvi di, xvi 0, xvi v34] _ _
              exact lp_141 le di 0 s1 ⟨hF, (show s1 0 2 = σ 0 2 from by omega), rfl, by omega, by omega, ⟨fun h => absurd h (by decide), fun _ => ⟨hRS, (by rw [← hc]; intro h; unfold alC smC dgC at h; omega)⟩⟩⟩
            · intro z45 t45 e45 l45 h45
              try have w45 : t45 = 0 := by omega
              show xw _ _ _ _ _ _ _ _ _ _ [xvr 0, xvi le, xvi z45, xvi inr, xvi v34] _ _
              refine And.intro (fun c46 => ?_) (fun c46 => ?_)
              · have hF := hF.p (j := 7) (v := 0) (by decide)
                exact lp_141 le z45 inr (xput s1 0 7 0) ⟨hF, (show s1 0 2 = σ 0 2 from by omega), rfl, by omega, by omega, ⟨fun _ => RS.digit (z := 0) hRS hc (by omega) (by omega) (by omega) (fun _ hl => absurd hl (by omega)), fun h => absurd h (by omega)⟩⟩
              · intro v48 e48 l48 h48
                have e48 : v48 = s1 0 7 := e48
                -- imul
                intro z49 t49 e49 l49 h49
                try have w49 : t49 = 0 := by omega
                -- isub
                intro z50 t50 e50 l50 h50
                try have w50 : t50 = 0 := by omega
                -- iadd
                intro z51 t51 e51 l51 h51
                try have w51 : t51 = 0 := by omega
                have hF := hF.p (j := 7) (v := z51) (by decide)
                exact lp_141 le z45 inr (xput s1 0 7 z51) ⟨hF, (show s1 0 2 = σ 0 2 from by omega), rfl, by omega, by omega, ⟨fun _ => RS.digit (z := z51) hRS hc (by omega) (by omega) (by omega) (fun hd hl => by (have hb := hRS.nb hd (by omega); have w1 : t49 = 0 := (by omega); have w2 : t50 = 0 := (by omega); have w3 : t51 = 0 := (by omega); omega)), fun h => absurd h (by omega)⟩⟩
        · refine And.intro (fun c53 => ?_) (fun c53 => ?_)
          · refine hX 400 93 _ _ ?_
            refine And.intro (fun c54 => ?_) (fun c54 => ?_)
            · refine hX 400 139 _ _ ?_
              refine And.intro (Nat.le_of_ble_eq_true rfl) ?_
              show xw _ _ _ _ _ _ _ _ _ _ [xvr 0, xvi le, xvi di, xvi 0, xvi v34] _ _
              exact lp_141 le di 0 s1 ⟨hF, (show s1 0 2 = σ 0 2 from by omega), rfl, by omega, by omega, ⟨fun h => absurd h (by decide), fun _ => ⟨hRS, (by rw [← hc]; intro h; unfold alC smC dgC at h; omega)⟩⟩⟩
            · refine And.intro (fun c55 => ?_) (fun c55 => ?_)
              · refine hX 400 139 _ _ ?_
                refine And.intro (Nat.le_of_ble_eq_true rfl) ?_
                show xw _ _ _ _ _ _ _ _ _ _ [xvr 0, xvi le, xvi di, xvi 0, xvi v34] _ _
                exact lp_141 le di 0 s1 ⟨hF, (show s1 0 2 = σ 0 2 from by omega), rfl, by omega, by omega, ⟨fun h => absurd h (by decide), fun _ => ⟨hRS, (by rw [← hc]; intro h; unfold alC smC dgC at h; omega)⟩⟩⟩
              · intro z56 t56 e56 l56 h56
                try have w56 : t56 = 0 := by omega
                show xw _ _ _ _ _ _ _ _ _ _ [xvr 0, xvi le, xvi z56, xvi inr, xvi v34] _ _
                refine And.intro (fun c57 => ?_) (fun c57 => ?_)
                · have hF := hF.p (j := 7) (v := 0) (by decide)
                  exact lp_141 le z56 inr (xput s1 0 7 0) ⟨hF, (show s1 0 2 = σ 0 2 from by omega), rfl, by omega, by omega, ⟨fun _ => RS.digit (z := 0) hRS hc (by omega) (by omega) (by omega) (fun _ hl => absurd hl (by omega)), fun h => absurd h (by omega)⟩⟩
                · intro v59 e59 l59 h59
                  have e59 : v59 = s1 0 7 := e59
                  -- imul
                  intro z60 t60 e60 l60 h60
                  try have w60 : t60 = 0 := by omega
                  -- isub
                  intro z61 t61 e61 l61 h61
                  try have w61 : t61 = 0 := by omega
                  -- iadd
                  intro z62 t62 e62 l62 h62
                  try have w62 : t62 = 0 := by omega
                  have hF := hF.p (j := 7) (v := z62) (by decide)
                  exact lp_141 le z56 inr (xput s1 0 7 z62) ⟨hF, (show s1 0 2 = σ 0 2 from by omega), rfl, by omega, by omega, ⟨fun _ => RS.digit (z := z62) hRS hc (by omega) (by omega) (by omega) (fun hd hl => by (have hb := hRS.nb hd (by omega); have w1 : t60 = 0 := (by omega); have w2 : t61 = 0 := (by omega); have w3 : t62 = 0 := (by omega); omega)), fun h => absurd h (by omega)⟩⟩
          · intro z64 t64 e64 l64 h64
            try have w64 : t64 = 0 := by omega
            show xw _ _ _ _ _ _ _ _ _ _ [xvr 0, xvi z64, xvi di, xvi inr, xvi v34] _ _
            refine And.intro (fun c65 => ?_) (fun c65 => ?_)
            · have hF := hF.p (j := 8) (v := 0) (by decide)
              exact lp_141 z64 di inr (xput s1 0 8 0) ⟨hF, (show s1 0 2 = σ 0 2 from by omega), rfl, by omega, by omega, ⟨fun _ => RS.letter (z := 0) hRS hc (by omega) (by omega) (by omega) (fun _ hl => absurd hl (by omega)), fun h => absurd h (by omega)⟩⟩
            · intro v67 e67 l67 h67
              have e67 : v67 = s1 0 8 := e67
              -- lmul
              intro z68 t68 e68 l68 h68
              try have w68 : t68 = 0 := by omega
              intro z69 t69 e69 l69 h69
              try have w69 : t69 = 0 := by omega
              intro z70 t70 e70 l70 h70
              try have w70 : t70 = 0 := by omega
              -- ladd
              intro z71 t71 e71 l71 h71
              try have w71 : t71 = 0 := by omega
              have hF := hF.p (j := 8) (v := z71) (by decide)
              exact lp_141 z64 di inr (xput s1 0 8 z71) ⟨hF, (show s1 0 2 = σ 0 2 from by omega), rfl, by omega, by omega, ⟨fun _ => RS.letter (z := z71) hRS hc (by omega) (by omega) (by omega) (fun hd hl => by (have hb := hRS.wb hd (by omega); have w1 : t68 = 0 := (by omega); have w2 : t71 = 0 := (by omega); omega)), fun h => absurd h (by omega)⟩⟩
  exact lp_16 _ 0 0 1 (xvu) (xput (xput σ 0 7 0) 0 8 0) rfl ⟨hF, (show σ 0 2 = σ 0 2 ∧ (0 : Int) ≤ 0 ∧ (0 : Int) ≤ 0 ∧ σ 0 4 = σ 0 4 + 0 + 0 ∧ σ 0 4 ≤ σ 0 2 ∧ ((1 : Int) = 0 ∨ (1 : Int) = 1) from by omega), RS.z, fun h => absurd h (by decide)⟩
