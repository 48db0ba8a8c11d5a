def PopX (f v v' : Nat → Int) (c : Int) : Prop := ∃ w : Int, ¬ w = 0 ∧ (-9 * (rkc f c + 1) ≤ w - 1000 ∧ w - 1000 ≤ 9 * (rkc f c + 1)) ∧ v' = up v c.toNat w
theorem VL.up {f v : Nat → Int} (h : VL f v) {c w : Int} (hc : 0 ≤ c) (hw : -9 * (rkc f c + 1) ≤ w - 1000 ∧ w - 1000 ≤ 9 * (rkc f c + 1)) : VL f (up v c.toNat w) := fun q h1 h2 => by
  by_cases e : q = c
  · subst e; rw [up_s]; exact Or.inr hw
  · rw [up_n (by omega)]; exact h q h1 h2
theorem VL.z {f v : Nat → Int} (h : ∀ j : Nat, (j : Int) < 156250 → v j = 0) : VL f v := fun q h1 h2 => Or.inl (h q.toNat (by omega))
theorem VG.gb {f : Nat → Int} (h : VG f) (h2 : f 1 = 2) (h3 : f 0 ≤ 3) (h4 : f 7 ≤ 4) {a : Int} (ha : 0 ≤ a ∧ a ≤ 1) {m h' : Nat → Int} (e1 : ∀ k, k < 3 → m k = hd f a.toNat k) (e2 : ∀ k, k < 3 → h' k = hd f (1 - a).toNat k) : GB f m h' 0 := by
  have m7 := h.1.2.2.2.2.2
  refine ⟨by omega, fun k hk => ?_⟩
  rw [e1 k hk, e2 k hk]
  have b := h.2.2.2.2.1 k (by omega)
  have p1 := h.2.2.1 a.toNat k (by omega) (by omega)
  have p2 := h.2.2.1 (1 - a).toNat k (by omega) (by omega)
  have g1 := h.hand (p := a.toNat) (k := k) (by omega) (by omega)
  have g2 := h.hand (p := (1 - a).toNat) (k := k) (by omega) (by omega)
  have s6 : sm 6 (fun p => hd f p k) = hd f 0 k + hd f 1 k + hd f 2 k + hd f 3 k + hd f 4 k + hd f 5 k := by simp only [sm]; omega
  have x2 := h.hand (p := 2) (k := k) (by omega) (by omega); have x3 := h.hand (p := 3) (k := k) (by omega) (by omega); have x4 := h.hand (p := 4) (k := k) (by omega) (by omega); have x5 := h.hand (p := 5) (k := k) (by omega) (by omega)
  have ec := cr_ct (f := f) (k := k) ⟨by omega, h4⟩
  have b2 := b.2
  have b1 := b.1
  have hs : hd f a.toNat k + hd f (1 - a).toNat k = hd f 0 k + hd f 1 k := by
    rcases (by omega : a = 0 ∨ a = 1) with rfl | rfl
    · rfl
    · show hd f 1 k + hd f 0 k = _
      omega
  refine ⟨g1.1, g2.1, ?_, fun hx => ⟨p1.2.2 (Or.inr hx), p2.2.2 (Or.inr hx)⟩⟩
  split at b2 <;> omega
theorem VG.mv {f : Nat → Int} (h : VG f) (h3 : f 0 ≤ 3) {a : Int} (ha : f 4 = a) (ha2 : 0 ≤ a ∧ a ≤ 1) : 0 < hd f a.toNat 0 + hd f a.toNat 1 + hd f a.toNat 2 := by
  have t := h.2.2.2.2.2.2 (by omega)
  rw [ha] at t
  have z : ∀ k, 3 ≤ k → k < 13 → hd f a.toNat k = 0 := fun k h1 h2 => (h.2.2.1 a.toNat k (by omega) h2).2.2 (Or.inr (by omega))
  rw [sm_cut (n := 3) (m := 13) (by omega) (fun i h1 h2 => z i h1 h2)] at t
  simp only [sm] at t
  omega
set_option maxHeartbeats 4000000 in
set_option maxRecDepth 100000 in
theorem s_openOf {σ : xS} {Q : Option xV → xS → Prop} (hp0 : RI σ) (hQ : ∀ r : Int, ∀ σ' : xS, Fr [16, 17, 18, 19] [42, 43, 44, 45, 46, 47] σ σ' → Q (some (xvi r)) σ') : xT kX11_openOf [xvr 0] σ Q := by
  refine ⟨Nat.le_of_ble_eq_true rfl, fun X hX => ?_⟩
  show X 0 [xvr 0, xvu, xvu, xvu, xvu] σ
  have hF : Fr [16, 17, 18, 19] [42, 43, 44, 45, 46, 47] σ σ := Fr.rf
  refine hX 400 0 _ _ ?_
  have hb0 := hp0.kinds; have hb1 := hp0.persons; have hb7 := hp0.heaped; have hvn := hp0.vain; have htr := hp0.turn
  have hF := hF.p (j := 47) (v := (-1)) (by decide)
  have lp_46 : ∀ (_ : Unit), (True) → X 46 [xvr 0, xvu, xvu, xvu, xvu] (xput σ 0 47 (-1)) := by
    intro _ hv_46
    refine hX 400 46 _ _ ?_
    refine And.intro rfl ?_
    exact hQ _ _ hF
  refine And.intro (rfl) (And.intro (⟨by omega, by omega⟩) ?_)
  intro v3 e3 l3 h3
  have e3 : v3 = σ 2 1 := e3
  refine And.intro (fun c4 => ?_) (fun c4 => ?_)
  · exact lp_46 () (show True from by first | trivial | omega | (refine ⟨by assumption, ?_⟩; omega) | (refine ⟨?_, ?_⟩ <;> omega))
  · refine And.intro (rfl) (And.intro (⟨by omega, by omega⟩) ?_)
    intro v5 e5 l5 h5
    have e5 : v5 = σ 2 0 := e5
    refine And.intro (fun c6 => ?_) (fun c6 => ?_)
    · exact lp_46 () (show True from by first | trivial | omega | (refine ⟨by assumption, ?_⟩; omega) | (refine ⟨?_, ?_⟩ <;> omega))
    · refine And.intro (rfl) (And.intro (⟨by omega, by omega⟩) ?_)
      intro v7 e7 l7 h7
      have e7 : v7 = σ 2 7 := e7
      refine And.intro (fun c8 => ?_) (fun c8 => ?_)
      · exact lp_46 () (show True from by first | trivial | omega | (refine ⟨by assumption, ?_⟩; omega) | (refine ⟨?_, ?_⟩ <;> omega))
      · refine And.intro (rfl) (And.intro (⟨by omega, by omega⟩) ?_)
        intro v9 e9 l9 h9
        have e9 : v9 = σ 2 4 := e9
        refine And.intro (fun c10 => ?_) (fun c10 => ?_)
        · refine And.intro (Nat.le_of_ble_eq_true rfl) ?_
          show xw _ _ _ _ _ _ _ _ _ _ [xvr 0, xvi 0, xvu, xvu, xvu] _ _
          have lp_51 : ∀ (m51 : Nat) (i : Int) (s1 : xS), ((156250 - i).toNat) = m51 → (Fr [16, 17, 18, 19] [42, 43, 44, 45, 46, 47] σ s1 ∧ (∀ j : Nat, (j : Int) < i → s1 16 j = 0) ∧ (0 ≤ i ∧ i ≤ 156250)) → X 51 [xvr 0, xvi i, xvu, xvu, xvu] s1 := by
            intro m51
            induction m51 using Nat.strongRecOn with
            | _ m51 ih_51 =>
            intro i s1 hm_51 hv_51
            obtain ⟨hF, hZ, hv_51⟩ := hv_51
            have hs2 : s1 2 = σ 2 := hF.1 2 (by decide) (by decide)
            have hI : RK σ s1 := (RK.rf hp0).fr hF (by decide) (by decide) (by decide) (by decide) (by decide) (by decide) (by decide)
            have q0 := congrFun hs2 0; have q1 := congrFun hs2 1; have q4 := congrFun hs2 4; have q6 := congrFun hs2 6; have q7 := congrFun hs2 7
            refine hX 400 51 _ _ ?_
            refine And.intro (fun c12 => ?_) (fun c12 => ?_)
            · refine And.intro (rfl) (And.intro (⟨by omega, by omega⟩) ?_)
              intro v13 e13 l13 h13
              have e13 : v13 = s1 2 4 := e13
              refine And.intro (Nat.le_of_ble_eq_true rfl) ?_
              show xw _ _ _ _ _ _ _ _ _ _ [xvr 0, xvi v13, xvu, xvu, xvu] _ _
              refine And.intro (Nat.le_of_ble_eq_true rfl) ?_
              show xw _ _ _ _ _ _ _ _ _ _ [xvr 0, xvi v13, xvi 0, xvu, xvu] _ _
              have lp_79 : ∀ (m79 : Nat) (a : Int) (k : Int) (s2 : xS), ((3 - k).toNat) = m79 → (Fr [16, 17, 18, 19] [42, 43, 44, 45, 46, 47] σ s2 ∧ a = σ 2 4 ∧ s2 16 = s1 16 ∧ (∀ j : Nat, (j : Int) < k → s2 18 j = hd (σ 2) a.toNat j ∧ s2 19 j = hd (σ 2) (1 - a).toNat j) ∧ (0 ≤ k ∧ k ≤ 3)) → X 79 [xvr 0, xvi a, xvi k, xvu, xvu] s2 := by
                intro m79
                induction m79 using Nat.strongRecOn with
                | _ m79 ih_79 =>
                intro a k s2 hm_79 hv_79
                obtain ⟨hF, ha, h16, hM, hv_79⟩ := hv_79
                have htu := hp0.turn
                have hs2 : s2 2 = σ 2 := hF.1 2 (by decide) (by decide)
                have hI : RK σ s2 := (RK.rf hp0).fr hF (by decide) (by decide) (by decide) (by decide) (by decide) (by decide) (by decide)
                have q0 := congrFun hs2 0; have q1 := congrFun hs2 1; have q4 := congrFun hs2 4; have q6 := congrFun hs2 6; have q7 := congrFun hs2 7
                refine hX 400 79 _ _ ?_
                refine And.intro (fun c15 => ?_) (fun c15 => ?_)
                · have hF := hF.p (j := 42) (v := 0) (by decide)
                  refine And.intro (rfl) (And.intro (⟨by omega, by omega⟩) ?_)
                  intro v17 e17 l17 h17
                  have e17 : v17 = s2 2 6 := e17
                  have hF := hF.p (j := 43) (v := v17) (by decide)
                  have hgb := hp0.1.gb (by omega) (by omega) (by omega) (a := a) (by omega) (m := s2 18) (h' := s2 19) (fun q hq => (hM q (by omega)).1) (fun q hq => (hM q (by omega)).2)
                  have hmv := hp0.1.mv (by omega) (a := a) (by omega) (by omega)
                  rw [← (hM 0 (by omega)).1, ← (hM 1 (by omega)).1, ← (hM 2 (by omega)).1] at hmv
                  refine s_codeOf (σ := (xput (xput s2 0 42 0) 0 43 v17)) (turned := 0) (fun q hq => (show (0 ≤ s2 18 q ∧ s2 18 q ≤ 4) ∧ (0 ≤ s2 19 q ∧ s2 19 q ≤ 4) from hgb.b hq)) (show (0 ≤ 0 ∧ 0 ≤ 4) ∧ (0 ≤ v17 ∧ v17 ≤ 1) from by omega) (by omega) (fun r19 p19 => ?_)
                  have p19 : ((0 ≤ r19 ∧ r19 < 156250) ∧ r19 / 2 % 5 = 0 ∧ r19 % 2 = v17 ∧ (dm r19 0 = s2 18 0 ∧ dm r19 1 = s2 18 1 ∧ dm r19 2 = s2 18 2) ∧ (dh r19 0 = s2 19 0 ∧ dh r19 1 = s2 19 1 ∧ dh r19 2 = s2 19 2)) := by
                    rcases p19 with q | q
                    · exact q.2
                    · exact absurd q.1 (by decide)
                  have hGD : GD (σ 2) r19 := ⟨p19.1, hgb.eq (k3 p19.2.2.2.1.1 p19.2.2.2.1.2.1 p19.2.2.2.1.2.2) (k3 p19.2.2.2.2.1 p19.2.2.2.2.2.1 p19.2.2.2.2.2.2) p19.2.1, by omega⟩
                  have hop : OPx (σ 2) := ⟨by have := hp0.heaped; omega, by have := hp0.kinds; omega, hp0.refill, hp0.1.2.1⟩
                  have hrk0 := rkc_b hop.1 hGD
                  refine And.intro (Nat.le_of_ble_eq_true rfl) ?_
                  show xw _ _ _ _ _ _ _ _ _ _ [xvr 0, xvi a, xvi r19, xvu, xvu] _ _
                  refine And.intro (Nat.le_of_ble_eq_true rfl) ?_
                  show xw _ _ _ _ _ _ _ _ _ _ [xvr 0, xvi a, xvi r19, xvi 1, xvu] _ _
                  refine And.intro (rfl) (And.intro (⟨by omega, by omega⟩) ?_)
                  have hF := hF.pt (t := 17) (j := 0) (v := r19) (by decide) (by decide)
                  have lp_149 : ∀ (m149 : Nat) (n : Int) (u21_4 : xV) (s3 : xS), ((50 * zc (s3 16) + (if 0 < n then rkc (σ 2) (s3 17 (n - 1).toNat) + 1 else 0)).toNat) = m149 → (Fr [16, 17, 18, 19] [42, 43, 44, 45, 46, 47] σ s3 ∧ VL (σ 2) (s3 16) ∧ (0 ≤ n ∧ n ≤ 45) ∧ (∀ i : Nat, (i : Int) < n → GD (σ 2) (s3 17 i) ∧ s3 16 (s3 17 i).toNat = 0 ∧ rkc (σ 2) (s3 17 i) ≤ 44 - i) ∧ (∀ i j : Nat, i < j → (j : Int) < n → rkc (σ 2) (s3 17 j) < rkc (σ 2) (s3 17 i))) → X 149 [xvr 0, xvi a, xvi r19, xvi n, u21_4] s3 := by
                    intro m149
                    induction m149 using Nat.strongRecOn with
                    | _ m149 ih_149 =>
                    intro n u21_4 s3 hm_149 hv_149
                    obtain ⟨hF, hVL, hv_149, hPa, hPr⟩ := hv_149
                    have hs2 : s3 2 = σ 2 := hF.1 2 (by decide) (by decide)
                    have hI : RK σ s3 := (RK.rf hp0).fr hF (by decide) (by decide) (by decide) (by decide) (by decide) (by decide) (by decide)
                    have q0 := congrFun hs2 0; have q1 := congrFun hs2 1; have q4 := congrFun hs2 4; have q6 := congrFun hs2 6; have q7 := congrFun hs2 7
                    refine hX 400 149 _ _ ?_
                    refine And.intro (fun c22 => ?_) (fun c22 => ?_)
                    · refine And.intro (rfl) (And.intro (⟨by omega, by omega⟩) ?_)
                      intro v23 e23 l23 h23
                      have e23 : v23 = s3 16 r19.toNat := e23
                      intro z24 t24 e24 l24 h24
                      try have w24 : t24 = 0 := by omega
                      refine s_booksOf (σ := s3) (k := a) (fun r25 => ?_)
                      intro z26 t26 e26 l26 h26
                      try have w26 : t26 = 0 := by omega
                      intro z27 t27 e27 l27 h27
                      try have w27 : t27 = 0 := by omega
                      refine s_booksOf (σ := s3) (k := z27) (fun r28 => ?_)
                      intro z29 t29 e29 l29 h29
                      try have w29 : t29 = 0 := by omega
                      refine And.intro rfl ?_
                      exact hQ _ _ hF
                    · intro z30 t30 e30 l30 h30
                      try have w30 : t30 = 0 := by omega
                      refine And.intro (rfl) (And.intro (⟨by omega, by omega⟩) ?_)
                      intro v31 e31 l31 h31
                      have e31 : v31 = s3 17 z30.toNat := e31
                      have hps := hPa (n - 1).toNat (by omega)
                      have hx32 : s3 17 (n - 1).toNat = v31 := by rw [e31, show z30.toNat = (n - 1).toNat from by omega]
                      rw [hx32] at hps
                      have hrk := rkc_b hop.1 hps.1
                      have hcr := hps.1.1
                      refine s_lacks (σ := s3) (code := v31) (by rw [hs2]; exact hop) (by rw [hs2]; exact hps.1) (by rw [hs2]; exact hVL) (fun r32 σ32 f32 p32 => ?_)
                      rw [hs2] at p32
                      replace p32 : (r32 = -1 ∧ PopX (σ 2) (s3 16) (σ32 16) v31) ∨ (GD (σ 2) r32 ∧ rkc (σ 2) r32 < rkc (σ 2) v31 ∧ s3 16 r32.toNat = 0 ∧ σ32 16 = s3 16) := p32
                      have hF := hF.tr f32 (by decide) (by decide)
                      have hs17 : σ32 17 = s3 17 := f32.1 17 (by decide) (by decide)
                      refine And.intro (Nat.le_of_ble_eq_true rfl) ?_
                      show xw _ _ _ _ _ _ _ _ _ _ [xvr 0, xvi a, xvi r19, xvi n, xvi r32] _ _
                      refine And.intro (fun c33 => ?_) (fun c33 => ?_)
                      · have hpush : GD (σ 2) r32 ∧ rkc (σ 2) r32 < rkc (σ 2) v31 ∧ s3 16 r32.toNat = 0 ∧ σ32 16 = s3 16 := by
                          rcases p32 with q | q
                          · exact absurd q.1 (by omega)
                          · exact q
                        refine And.intro (rfl) (And.intro (⟨by omega, by omega⟩) ?_)
                        have hF := hF.pt (t := 17) (j := n.toNat) (v := r32) (by decide) (by decide)
                        intro z35 t35 e35 l35 h35
                        try have w35 : t35 = 0 := by omega
                        show xw _ _ _ _ _ _ _ _ _ _ [xvr 0, xvi a, xvi r19, xvi z35, xvi r32] _ _
                        refine hX 400 190 _ _ ?_
                        exact ih_149 _ (show (50 * zc ((xput σ32 17 n.toNat r32) 16) + (if 0 < z35 then rkc (σ 2) ((xput σ32 17 n.toNat r32) 17 (z35 - 1).toNat) + 1 else 0)).toNat < m149 from by
                                    have pw := hpush
                                    rw [if_pos (by omega), hx32] at hm_149
                                    rw [if_pos (by omega)]
                                    have zn := zc_nn (v := s3 16)
                                    have e1 : (xput σ32 17 n.toNat r32) 16 = s3 16 := pw.2.2.2
                                    rw [e1]
                                    have e2 : (xput σ32 17 n.toNat r32) 17 (z35 - 1).toNat = r32 := by rw [show (z35 - 1).toNat = n.toNat from by omega, xput_s]
                                    rw [e2]
                                    have y2 := rkc_b hop.1 pw.1
                                    have := pw.2.1
                                    omega) z35 (xvi r32) (xput σ32 17 n.toNat r32) rfl (by
                                    have pw := hpush
                                    have y2 := rkc_b hop.1 pw.1
                                    refine ⟨hF, ?_, by omega, (fun q hq => ?_), (fun q q2 h1 h2 => ?_)⟩
                                    · show VL (σ 2) (σ32 16)
                                      rw [pw.2.2.2]; exact hVL
                                    · show GD (σ 2) (xput σ32 17 n.toNat r32 17 q) ∧ σ32 16 (xput σ32 17 n.toNat r32 17 q).toNat = 0 ∧ rkc (σ 2) (xput σ32 17 n.toNat r32 17 q) ≤ 44 - q
                                      by_cases e : q = n.toNat
                                      · rw [show q = n.toNat from by omega, xput_s, pw.2.2.2]
                                        exact ⟨pw.1, pw.2.2.1, by omega⟩
                                      · rw [xput_o (by omega), hs17, pw.2.2.2]
                                        exact hPa q (by omega)
                                    · show rkc (σ 2) (xput σ32 17 n.toNat r32 17 q2) < rkc (σ 2) (xput σ32 17 n.toNat r32 17 q)
                                      rw [xput_o (show q ≠ n.toNat from by omega), hs17]
                                      by_cases e : q2 = n.toNat
                                      · rw [show q2 = n.toNat from by omega, xput_s]
                                        by_cases e2 : q = (n - 1).toNat
                                        · rw [e2, hx32]; exact pw.2.1
                                        · have zr := hPr q (n - 1).toNat (by omega) (by omega)
                                          rw [hx32] at zr
                                          have := pw.2.1
                                          omega
                                      · rw [xput_o (by omega), hs17]
                                        exact hPr q q2 h1 (by omega))
                      · have hpop : PopX (σ 2) (s3 16) (σ32 16) v31 := by
                          rcases p32 with q | q
                          · exact q.2
                          · exfalso; have := q.1.1; omega
                        intro z36 t36 e36 l36 h36
                        try have w36 : t36 = 0 := by omega
                        show xw _ _ _ _ _ _ _ _ _ _ [xvr 0, xvi a, xvi r19, xvi z36, xvi r32] _ _
                        refine hX 400 190 _ _ ?_
                        exact ih_149 _ (show (50 * zc (σ32 16) + (if 0 < z36 then rkc (σ 2) (σ32 17 (z36 - 1).toNat) + 1 else 0)).toNat < m149 from by
                                    obtain ⟨w, hw0, hwb, hwe⟩ := hpop
                                    rw [hwe, zc_up (by omega) hps.2.1 hw0]
                                    have zn := zc_nn (v := s3 16)
                                    rw [if_pos (by omega), hx32] at hm_149
                                    have zn2 := zc_nn (v := up (s3 16) v31.toNat w)
                                    rw [zc_up (by omega) hps.2.1 hw0] at zn2
                                    split
                                    · rename_i hpos
                                      have y := hPa (z36 - 1).toNat (by omega)
                                      rw [hs17]
                                      have y2 := rkc_b hop.1 y.1
                                      omega
                                    · omega) z36 (xvi r32) σ32 rfl (by
                                    have pw := hpop
                                    obtain ⟨w, hw0, hwb, hwe⟩ := pw
                                    refine ⟨hF, ?_, by omega, (fun q hq => ?_), (fun q q2 h1 h2 => ?_)⟩
                                    · rw [hwe]; exact hVL.up (by omega) hwb
                                    · have z := hPa q (by omega)
                                      rw [hs17, hwe]
                                      have zr := hPr q (n - 1).toNat (by omega) (by omega)
                                      rw [hx32] at zr
                                      refine ⟨z.1, ?_, z.2.2⟩
                                      rw [up_n (fun e => by
                                        have e2 : s3 17 q = v31 := by have := z.1.1; omega
                                        rw [e2] at zr; omega)]
                                      exact z.2.1
                                    · rw [hs17]; exact hPr q q2 h1 (by omega))
                  exact lp_149 _ 1 (xvu) (xput (xput (xput s2 0 42 0) 0 43 v17) 17 0 r19) rfl ⟨hF, VL.z (fun q hq => (show s2 16 q = 0 from by rw [h16]; exact hZ q (by omega))), by omega, (fun q hq => by
                        have e : q = 0 := by omega
                        subst e
                        rw [xput_s]
                        exact ⟨hGD, (show s2 16 _ = 0 from by rw [h16]; exact hZ _ (by have := hGD.1; omega)), by omega⟩), (fun q q2 h1 h2 => by omega)⟩
                · have hI2 : RI s2 := hI.1.eq rfl rfl rfl rfl rfl rfl rfl
                  refine s_hand0 (σ := s2) (k := a) (kind := k) hI2 (by omega) (by omega) (fun r37 p37 => ?_)
                  have w37 : r37 = hd (σ 2) (a).toNat k.toNat := by
                    have z : r37 = s2 2 (60 + 13 * a + k).toNat := p37.1
                    rw [z, hs2]; exact hdI (σ 2) (k := a) (kind := k) (by omega) (by omega)
                  refine And.intro (rfl) (And.intro (⟨by omega, by omega⟩) ?_)
                  have hF := hF.pt (t := 18) (j := k.toNat) (v := r37) (by decide) (by decide)
                  intro z39 t39 e39 l39 h39
                  try have w39 : t39 = 0 := by omega
                  have hI2 : RI (xput s2 18 k.toNat r37) := hI.1.eq rfl rfl rfl rfl rfl rfl rfl
                  refine s_hand0 (σ := (xput s2 18 k.toNat r37)) (k := z39) (kind := k) hI2 (by omega) (by omega) (fun r40 p40 => ?_)
                  have w40 : r40 = hd (σ 2) (z39).toNat k.toNat := by
                    have z : r40 = s2 2 (60 + 13 * z39 + k).toNat := p40.1
                    rw [z, hs2]; exact hdI (σ 2) (k := z39) (kind := k) (by omega) (by omega)
                  refine And.intro (rfl) (And.intro (⟨by omega, by omega⟩) ?_)
                  have hF := hF.pt (t := 19) (j := k.toNat) (v := r40) (by decide) (by decide)
                  intro z42 t42 e42 l42 h42
                  try have w42 : t42 = 0 := by omega
                  show xw _ _ _ _ _ _ _ _ _ _ [xvr 0, xvi a, xvi z42, xvu, xvu] _ _
                  exact ih_79 _ (show (3 - z42).toNat < m79 from by omega) a z42 (xput (xput s2 18 k.toNat r37) 19 k.toNat r40) rfl ⟨hF, ha, h16, (fun q hq => by
                            by_cases e : q = k.toNat
                            · subst e
                              exact ⟨(show xput _ 18 k.toNat r37 18 k.toNat = _ from by rw [xput_s]; exact w37), (show xput _ 19 k.toNat r40 19 k.toNat = _ from by rw [xput_s, w40, show z39 = 1 - a from by omega])⟩
                            · have z := hM q (by omega)
                              refine ⟨?_, ?_⟩
                              · show xput _ 18 k.toNat _ 18 q = _
                                rw [xput_o e]; exact z.1
                              · show xput _ 19 k.toNat _ 19 q = _
                                rw [xput_o e]; exact z.2), by omega⟩
              exact lp_79 _ v13 0 s1 rfl ⟨hF, (by rw [← hs2]; omega), rfl, (fun j hj => by omega), by omega⟩
            · refine And.intro (rfl) (And.intro (⟨by omega, by omega⟩) ?_)
              have hF := hF.pt (t := 16) (j := i.toNat) (v := 0) (by decide) (by decide)
              intro z44 t44 e44 l44 h44
              try have w44 : t44 = 0 := by omega
              show xw _ _ _ _ _ _ _ _ _ _ [xvr 0, xvi z44, xvu, xvu, xvu] _ _
              exact ih_51 _ (show (156250 - z44).toNat < m51 from by omega) z44 (xput s1 16 i.toNat 0) rfl ⟨hF, (fun q hq => by
                        by_cases e : q = i.toNat
                        · rw [show q = i.toNat from by omega, xput_s]
                        · rw [xput_o (by omega)]; exact hZ q (by omega)), by omega⟩
          exact lp_51 _ 0 (xput σ 0 47 (-1)) rfl ⟨hF, (fun j hj => by omega), by omega⟩
        · exact lp_46 () (show True from by first | trivial | omega | (refine ⟨by assumption, ?_⟩; omega) | (refine ⟨?_, ?_⟩ <;> omega))
set_option maxHeartbeats 4000000 in
set_option maxRecDepth 100000 in
theorem s_open {σ : xS} {Q : Option xV → xS → Prop} (hI : RI σ) (hQ : ∀ r : Int, ∀ σ' : xS, RK σ σ' → Q (some (xvi r)) σ') : xT kX11_open [xvr 0] σ Q := by
  refine ⟨Nat.le_of_ble_eq_true rfl, fun X hX => ?_⟩
  show X 0 [xvr 0] σ
  have hI : RK σ σ := RK.rf hI
  have hb0 := hI.1.kinds; have hb1 := hI.1.persons
  refine hX 400 0 _ _ ?_
  have hI := hI.p0 (j := 0) (v := 0) (by decide) (by decide) (by decide)
  refine s_openOf (σ := (xput σ 0 0 0)) hI.1 (fun r2 σ2 f2 => ?_)
  have hI := hI.fr f2 (by decide) (by decide) (by decide) (by decide) (by decide) (by decide) (by decide)
  refine And.intro rfl ?_
  exact hQ _ _ hI 
set_option maxHeartbeats 4000000 in
set_option maxRecDepth 100000 in
theorem s_first {σ : xS} {Q : Option xV → xS → Prop} (hI : RI σ) (hQ : ∀ r : Int, ∀ σ' : xS, RK σ σ' → Q (some (xvi r)) σ') : xT kX11_first [xvr 0] σ Q := by
  refine ⟨Nat.le_of_ble_eq_true rfl, fun X hX => ?_⟩
  show X 0 [xvr 0] σ
  have hI : RK σ σ := RK.rf hI
  have hb0 := hI.1.kinds; have hb1 := hI.1.persons
  refine hX 400 0 _ _ ?_
  have hI := hI.p0 (j := 0) (v := 0) (by decide) (by decide) (by decide)
  refine s_openOf (σ := (xput σ 0 0 0)) hI.1 (fun r2 σ2 f2 => ?_)
  have hI := hI.fr f2 (by decide) (by decide) (by decide) (by decide) (by decide) (by decide) (by decide)
  refine And.intro (fun c3 => ?_) (fun c3 => ?_)
  · intro v4 e4 l4 h4
    have e4 : v4 = σ2 0 47 := e4
    refine And.intro rfl ?_
    exact hQ _ _ hI 
  · refine And.intro rfl ?_
    exact hQ _ _ hI 
