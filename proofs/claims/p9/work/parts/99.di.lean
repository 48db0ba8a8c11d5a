def VQ (σ : xS) (Q : Option xV → xS → Prop) : Prop := ∀ (r : Int) (σ' : xS), Fr [1, 4] [8, 9, 10, 11, 12] σ σ' → Q (some (xvi r)) σ'
/-- what value asks, at most n deep yet -/
def VE (n : Nat) : xE := fun as σ Q => ∃ state depth : Int, as = [xvr 0, xvi state, xvi depth] ∧ (0 ≤ depth ∧ depth ≤ 41 ∧ 42 - depth ≤ n) ∧ (0 ≤ σ 0 3 ∧ σ 0 3 ≤ 4) ∧ (∀ i : Nat, (i : Int) < σ 0 3 → 0 ≤ σ 3 i ∧ σ 3 i ≤ 2) ∧ (0 ≤ σ 0 4 ∧ σ 0 4 ≤ 3) ∧ VQ σ Q
theorem VE_i {n : Nat} {state depth : Int} {σ : xS} {Q : Option xV → xS → Prop} (h0 : 0 ≤ depth ∧ depth ≤ 41 ∧ 42 - depth ≤ n) (h1 : 0 ≤ σ 0 3 ∧ σ 0 3 ≤ 4) (h2 : ∀ i : Nat, (i : Int) < σ 0 3 → 0 ≤ σ 3 i ∧ σ 3 i ≤ 2) (h3 : 0 ≤ σ 0 4 ∧ σ 0 4 ≤ 3) (hQ : ∀ (r : Int) (σ' : xS), Fr [1, 4] [8, 9, 10, 11, 12] σ σ' → Q (some (xvi r)) σ') : VE n [xvr 0, xvi state, xvi depth] σ Q := ⟨state, depth, rfl, h0, h1, h2, h3, hQ⟩
set_option maxHeartbeats 4000000 in
set_option maxRecDepth 100000 in
theorem sX0_value {n : Nat} {σ : xS} {state depth : Int} {Q : Option xV → xS → Prop} (hp0 : 0 ≤ depth ∧ depth ≤ 41 ∧ 42 - depth ≤ (n + 1 : Nat)) (hp1 : 0 ≤ σ 0 3 ∧ σ 0 3 ≤ 4) (hp2 : ∀ i : Nat, (i : Int) < σ 0 3 → 0 ≤ σ 3 i ∧ σ 3 i ≤ 2) (hp3 : 0 ≤ σ 0 4 ∧ σ 0 4 ≤ 3) (hQ : ∀ r : Int, ∀ σ' : xS, Fr [1, 4] [8, 9, 10, 11, 12] σ σ' → Q (some (xvi r)) σ') : xT (kX0_value (VE n)) [xvr 0, xvi state, xvi depth] σ Q := by
  refine ⟨Nat.le_of_ble_eq_true rfl, fun X hX => ?_⟩
  show X 0 [xvr 0, xvi state, xvi depth, xvu, xvu, xvu, xvu, xvu, xvu, xvu] σ
  have hF : Fr [1, 4] [8, 9, 10, 11, 12] σ σ := Fr.rf
  refine hX 400 0 _ _ ?_
  have lp_17 : ∀ (_ : Unit), (True) → X 17 [xvr 0, xvi state, xvi depth, xvu, xvu, xvu, xvu, xvu, xvu, xvu] σ := by
    intro _ hv_17
    refine hX 400 17 _ _ ?_
    refine And.intro rfl ?_
    exact hQ _ _ hF
  refine And.intro (fun c2 => ?_) (fun c2 => ?_)
  · exact lp_17 () (show True from by first | trivial | omega | (refine ⟨by assumption, ?_⟩; omega) | (refine ⟨?_, ?_⟩ <;> omega))
  · refine And.intro (fun c3 => ?_) (fun c3 => ?_)
    · exact lp_17 () (show True from by first | trivial | omega | (refine ⟨by assumption, ?_⟩; omega) | (refine ⟨?_, ?_⟩ <;> omega))
    · refine And.intro (fun c4 => ?_) (fun c4 => ?_)
      · refine And.intro (rfl) (And.intro (⟨by omega, by omega⟩) ?_)
        intro v5 e5 l5 h5
        have e5 : v5 = σ 1 state.toNat := e5
        refine And.intro (fun c6 => ?_) (fun c6 => ?_)
        · intro z7 e7 l7 h7
          intro z8 e8 l8 h8
          have q8 := x1b z7; rw [← e8] at q8
          refine And.intro (Nat.le_of_ble_eq_true rfl) ?_
          show xw _ _ _ _ _ _ _ _ _ _ [xvr 0, xvi state, xvi depth, xvi z8, xvu, xvu, xvu, xvu, xvu, xvu] _ _
          refine And.intro (Nat.le_of_ble_eq_true rfl) ?_
          show xw _ _ _ _ _ _ _ _ _ _ [xvr 0, xvi state, xvi depth, xvi z8, xvi 0, xvu, xvu, xvu, xvu, xvu] _ _
          refine And.intro (Nat.le_of_ble_eq_true rfl) ?_
          show xw _ _ _ _ _ _ _ _ _ _ [xvr 0, xvi state, xvi depth, xvi z8, xvi 0, xvi (-1), xvu, xvu, xvu, xvu] _ _
          refine And.intro (Nat.le_of_ble_eq_true rfl) ?_
          show xw _ _ _ _ _ _ _ _ _ _ [xvr 0, xvi state, xvi depth, xvi z8, xvi 0, xvi (-1), xvi 0, xvu, xvu, xvu] _ _
          have lp_53 : ∀ (m53 : Nat) (best : Int) (bk : Int) (k : Int) (u9_7 : xV) (u9_8 : xV) (u9_9 : xV) (s1 : xS), ((3 - k).toNat) = m53 → (Fr [1, 4] [8, 9, 10, 11, 12] σ s1 ∧ 0 ≤ k) → X 53 [xvr 0, xvi state, xvi depth, xvi z8, xvi best, xvi bk, xvi k, u9_7, u9_8, u9_9] s1 := by
            intro m53
            induction m53 using Nat.strongRecOn with
            | _ m53 ih_53 =>
            intro best bk k u9_7 u9_8 u9_9 s1 hm_53 hv_53
            obtain ⟨hF, hv_53⟩ := hv_53
            have q3 : s1 0 3 = σ 0 3 := hF.2 3 (by decide)
            have q4 : s1 0 4 = σ 0 4 := hF.2 4 (by decide)
            have qh : s1 3 = σ 3 := hF.1 3 (by decide) (by decide)
            refine hX 400 53 _ _ ?_
            intro v10 e10 l10 h10
            have e10 : v10 = s1 0 4 := e10
            refine And.intro (fun c11 => ?_) (fun c11 => ?_)
            · refine And.intro (rfl) (And.intro (⟨by omega, by omega⟩) ?_)
              have hF := hF.pt (t := 1) (j := state.toNat) (v := best) (by decide) (by decide)
              have hF := hF.p (j := 12) (v := bk) (by decide)
              refine And.intro rfl ?_
              exact hQ _ _ hF
            · refine sX0_unpack (σ := s1) (state := state) (show 0 ≤ state ∧ state ≤ 2499 from by omega) (show 0 ≤ (s1 0 3) ∧ (s1 0 3) ≤ 4 from by omega) (fun σ14 f14 p14 => ?_)
              have hF := hF.tr f14 (by decide) (by decide)
              have p14 : 0 ≤ σ14 0 8 ∧ σ14 0 8 ≤ 4 := p14
              have q3 : σ14 0 3 = σ 0 3 := hF.2 3 (by decide)
              have q4 : σ14 0 4 = σ 0 4 := hF.2 4 (by decide)
              have qh : σ14 3 = σ 3 := hF.1 3 (by decide) (by decide)
              have lp_156 : ∀ (best2 : Int) (bk2 : Int) (u15_7 : xV) (u15_8 : xV) (u15_9 : xV) (s2 : xS), (Fr [1, 4] [8, 9, 10, 11, 12] σ s2) → X 156 [xvr 0, xvi state, xvi depth, xvi z8, xvi best2, xvi bk2, xvi k, u15_7, u15_8, u15_9] s2 := by
                intro best2 bk2 u15_7 u15_8 u15_9 s2 hv_156
                have hF := hv_156
                refine hX 400 156 _ _ ?_
                intro z16 t16 e16 l16 h16
                try have w16 : t16 = 0 := by omega
                show xw _ _ _ _ _ _ _ _ _ _ [xvr 0, xvi state, xvi depth, xvi z8, xvi best2, xvi bk2, xvi z16, u15_7, u15_8, u15_9] _ _
                exact ih_53 _ (show (3 - z16).toNat < m53 from by omega) best2 bk2 z16 (u15_7) (u15_8) (u15_9) s2 rfl ⟨hF, by omega⟩
              intro z17 t17 e17 l17 h17
              try have w17 : t17 = 0 := by omega
              intro z18 t18 e18 l18 h18
              try have w18 : t18 = 0 := by omega
              refine And.intro (rfl) (And.intro (⟨by omega, by omega⟩) ?_)
              intro v19 e19 l19 h19
              have e19 : v19 = σ14 4 z18.toNat := e19
              refine And.intro (fun c20 => ?_) (fun c20 => ?_)
              · exact lp_156 best bk (u9_7) (u9_8) (u9_9) σ14 hF
              · refine sX0_move (σ := σ14) (p := z8) (kind := k) (show 0 ≤ z8 ∧ z8 ≤ 1 from by omega) (show 0 ≤ k ∧ k ≤ 2 from by omega) (show 0 ≤ (σ14 0 8) ∧ (σ14 0 8) ≤ 4 from by omega) (show 0 ≤ (σ14 0 3) ∧ (σ14 0 3) ≤ 4 from by omega) (show ∀ i : Nat, (i : Int) < (σ14 0 3) → 0 ≤ σ14 3 i ∧ σ14 3 i ≤ 2 from fun i hi => (by rw [qh]; exact hp2 i (by omega))) (fun r21 σ21 f21 p21 => ?_)
                have hF := hF.tr f21 (by decide) (by decide)
                have p21 : (0 ≤ σ21 0 8 ∧ σ21 0 8 ≤ 4) ∧ (r21 = 0 ∨ r21 = 1) := p21
                have q3 : σ21 0 3 = σ 0 3 := hF.2 3 (by decide)
                have q4 : σ21 0 4 = σ 0 4 := hF.2 4 (by decide)
                have qh : σ21 3 = σ 3 := hF.1 3 (by decide) (by decide)
                refine And.intro (Nat.le_of_ble_eq_true rfl) ?_
                show xw _ _ _ _ _ _ _ _ _ _ [xvr 0, xvi state, xvi depth, xvi z8, xvi best, xvi bk, xvi k, xvi r21, u9_8, u9_9] _ _
                intro v22 e22 l22 h22
                have e22 : v22 = σ21 0 11 := e22
                refine And.intro (Nat.le_of_ble_eq_true rfl) ?_
                show xw _ _ _ _ _ _ _ _ _ _ [xvr 0, xvi state, xvi depth, xvi z8, xvi best, xvi bk, xvi k, xvi r21, xvi v22, u9_9] _ _
                refine And.intro (fun c23 => ?_) (fun c23 => ?_)
                · intro z24 t24 e24 l24 h24
                  try have w24 : t24 = 0 := by omega
                  refine And.intro (Nat.le_of_ble_eq_true rfl) ?_
                  show xw _ _ _ _ _ _ _ _ _ _ [xvr 0, xvi state, xvi depth, xvi z8, xvi best, xvi bk, xvi k, xvi r21, xvi v22, xvi z24] _ _
                  have lp_148 : ∀ (_ : Unit), (True) → X 148 [xvr 0, xvi state, xvi depth, xvi z8, xvi best, xvi bk, xvi k, xvi r21, xvi v22, xvi z24] σ21 := by
                    intro _ hv_148
                    refine hX 400 148 _ _ ?_
                    refine And.intro (Nat.le_of_ble_eq_true rfl) ?_
                    show xw _ _ _ _ _ _ _ _ _ _ [xvr 0, xvi state, xvi depth, xvi z8, xvi z24, xvi bk, xvi k, xvi r21, xvi v22, xvi z24] _ _
                    refine And.intro (Nat.le_of_ble_eq_true rfl) ?_
                    show xw _ _ _ _ _ _ _ _ _ _ [xvr 0, xvi state, xvi depth, xvi z8, xvi z24, xvi k, xvi k, xvi r21, xvi v22, xvi z24] _ _
                    exact lp_156 z24 k (xvi r21) (xvi v22) (xvi z24) σ21 hF
                  refine And.intro (fun c26 => ?_) (fun c26 => ?_)
                  · exact lp_148 () (show True from by first | trivial | omega | (refine ⟨by assumption, ?_⟩; omega) | (refine ⟨?_, ?_⟩ <;> omega))
                  · refine And.intro (fun c27 => ?_) (fun c27 => ?_)
                    · refine And.intro (fun c28 => ?_) (fun c28 => ?_)
                      · exact lp_156 best bk (xvi r21) (xvi v22) (xvi z24) σ21 hF
                      · exact lp_148 () (show True from by first | trivial | omega | (refine ⟨by assumption, ?_⟩; omega) | (refine ⟨?_, ?_⟩ <;> omega))
                    · refine And.intro (fun c29 => ?_) (fun c29 => ?_)
                      · exact lp_156 best bk (xvi r21) (xvi v22) (xvi z24) σ21 hF
                      · exact lp_148 () (show True from by first | trivial | omega | (refine ⟨by assumption, ?_⟩; omega) | (refine ⟨?_, ?_⟩ <;> omega))
                · refine sX0_pack (σ := σ21)   (fun r30 => ?_)
                  intro z31 t31 e31 l31 h31
                  try have w31 : t31 = 0 := by omega
                  refine VE_i (n := n) (state := r30) (depth := z31) (σ := σ21) (by omega) (show 0 ≤ σ21 0 3 ∧ σ21 0 3 ≤ 4 from by omega) (fun i hi => (by rw [qh]; exact hp2 i (by omega))) (show 0 ≤ σ21 0 4 ∧ σ21 0 4 ≤ 3 from by omega) (fun r32 σ32 f32 => ?_)
                  have hF := hF.tr f32 (by decide) (by decide)
                  have q3 : σ32 0 3 = σ 0 3 := hF.2 3 (by decide)
                  have q4 : σ32 0 4 = σ 0 4 := hF.2 4 (by decide)
                  have qh : σ32 3 = σ 3 := hF.1 3 (by decide) (by decide)
                  intro z33 t33 e33 l33 h33
                  try have w33 : t33 = 0 := by omega
                  refine And.intro (Nat.le_of_ble_eq_true rfl) ?_
                  show xw _ _ _ _ _ _ _ _ _ _ [xvr 0, xvi state, xvi depth, xvi z8, xvi best, xvi bk, xvi k, xvi r21, xvi v22, xvi z33] _ _
                  have lp_148 : ∀ (_ : Unit), (True) → X 148 [xvr 0, xvi state, xvi depth, xvi z8, xvi best, xvi bk, xvi k, xvi r21, xvi v22, xvi z33] σ32 := by
                    intro _ hv_148
                    refine hX 400 148 _ _ ?_
                    refine And.intro (Nat.le_of_ble_eq_true rfl) ?_
                    show xw _ _ _ _ _ _ _ _ _ _ [xvr 0, xvi state, xvi depth, xvi z8, xvi z33, xvi bk, xvi k, xvi r21, xvi v22, xvi z33] _ _
                    refine And.intro (Nat.le_of_ble_eq_true rfl) ?_
                    show xw _ _ _ _ _ _ _ _ _ _ [xvr 0, xvi state, xvi depth, xvi z8, xvi z33, xvi k, xvi k, xvi r21, xvi v22, xvi z33] _ _
                    exact lp_156 z33 k (xvi r21) (xvi v22) (xvi z33) σ32 hF
                  refine And.intro (fun c35 => ?_) (fun c35 => ?_)
                  · exact lp_148 () (show True from by first | trivial | omega | (refine ⟨by assumption, ?_⟩; omega) | (refine ⟨?_, ?_⟩ <;> omega))
                  · refine And.intro (fun c36 => ?_) (fun c36 => ?_)
                    · refine And.intro (fun c37 => ?_) (fun c37 => ?_)
                      · exact lp_156 best bk (xvi r21) (xvi v22) (xvi z33) σ32 hF
                      · exact lp_148 () (show True from by first | trivial | omega | (refine ⟨by assumption, ?_⟩; omega) | (refine ⟨?_, ?_⟩ <;> omega))
                    · refine And.intro (fun c38 => ?_) (fun c38 => ?_)
                      · exact lp_156 best bk (xvi r21) (xvi v22) (xvi z33) σ32 hF
                      · exact lp_148 () (show True from by first | trivial | omega | (refine ⟨by assumption, ?_⟩; omega) | (refine ⟨?_, ?_⟩ <;> omega))
          exact lp_53 _ 0 (-1) 0 (xvu) (xvu) (xvu) σ rfl ⟨hF, by omega⟩
        · refine And.intro (rfl) (And.intro (⟨by omega, by omega⟩) ?_)
          intro v39 e39 l39 h39
          have e39 : v39 = σ 1 state.toNat := e39
          refine And.intro rfl ?_
          exact hQ _ _ hF
      · exact lp_17 () (show True from by first | trivial | omega | (refine ⟨by assumption, ?_⟩; omega) | (refine ⟨?_, ?_⟩ <;> omega))
