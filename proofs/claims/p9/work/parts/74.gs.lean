set_option maxHeartbeats 4000000 in
set_option maxRecDepth 100000 in
theorem s_gamesOf {σ : xS} {i j n fr : Int} {Q : Option xV → xS → Prop} (hp0 : RI σ) (hp1 : 1 ≤ n ∧ n ≤ 30) (hp2 : 2 ≤ σ 2 1) (hp3 : 5 * σ 2 1 ≤ 4 * σ 2 0) (hQ : ∀ r : Int, ∀ σ' : xS, Fr [2, 7, 9, 20, 21] [24, 49, 51] σ σ' → (RK σ σ' ∧ LPx (σ 2) (σ' 2)) → Q (some (xvi r)) σ') : xT kX11_gamesOf [xvr 0, xvi i, xvi j, xvi n, xvi fr] σ Q := by
  refine ⟨Nat.le_of_ble_eq_true rfl, fun X hX => ?_⟩
  show X 0 [xvr 0, xvi i, xvi j, xvi n, xvi fr, xvu, xvu, xvu, xvu] σ
  have hF : Fr [2, 7, 9, 20, 21] [24, 49, 51] σ σ := Fr.rf
  refine hX 400 0 _ _ ?_
  have hI : RK σ σ := RK.rf hp0
  have hb0 := hI.1.kinds; have hb1 := hI.1.persons
  refine s_tries (σ := σ) (fun σ1 f1 p1 => ?_)
  have hF := hF.tr f1 (by decide) (by decide)
  have hI := hI.fr f1 (by decide) (by decide) (by decide) (by decide) (by decide) (by decide) (by decide)
  have h9 : ∀ j : Nat, j < 580 → σ1 9 j = σ 2 (4 + j) := fun j hj => by have q := p1.1 j hj; rw [Nat.zero_add] at q; exact q
  have hL : LPx (σ 2) (σ1 2) := by rw [f1.1 2 (by decide) (by decide)]; exact LPx.rf
  refine And.intro (Nat.le_of_ble_eq_true rfl) ?_
  show xw _ _ _ _ _ _ _ _ _ _ [xvr 0, xvi i, xvi j, xvi n, xvi fr, xvi 0, xvu, xvu, xvu] _ _
  have hF := hF.p (j := 51) (v := 0) (by decide)
  have hI := hI.p0 (j := 51) (v := 0) (by decide) (by decide) (by decide)
  refine And.intro (Nat.le_of_ble_eq_true rfl) ?_
  show xw _ _ _ _ _ _ _ _ _ _ [xvr 0, xvi i, xvi j, xvi n, xvi fr, xvi 0, xvi 0, xvu, xvu] _ _
  have lp_15 : ∀ (m15 : Nat) (won : Int) (g : Int) (u3_7 : xV) (u3_8 : xV) (s1 : xS), ((30 - g).toNat) = m15 → (Fr [2, 7, 9, 20, 21] [24, 49, 51] σ s1 ∧ RK σ s1 ∧ LPx (σ 2) (s1 2) ∧ s1 9 = σ1 9 ∧ 0 ≤ g) → X 15 [xvr 0, xvi i, xvi j, xvi n, xvi fr, xvi won, xvi g, u3_7, u3_8] s1 := by
    intro m15
    induction m15 using Nat.strongRecOn with
    | _ m15 ih_15 =>
    intro won g u3_7 u3_8 s1 hm_15 hv_15
    obtain ⟨hF, hI, hL, h9s, hv_15⟩ := hv_15
    have hb0 := hI.1.kinds; have hb1 := hI.1.persons
    have q0 : s1 2 0 = σ 2 0 := hL 0 (by omega) (by omega)
    have q1 : s1 2 1 = σ 2 1 := hL 1 (by omega) (by omega)
    refine hX 400 15 _ _ ?_
    refine And.intro (fun c4 => ?_) (fun c4 => ?_)
    · refine s_back (σ := s1) (fun σ5 f5 p5 => ?_)
      have hF := hF.tr f5 (by decide) (by decide)
      have hI := hI.g f5 (hp0.1.ag8 (fun q h1 h2 => by
          by_cases c : q < 4
          · rw [p5.2 q (by omega)]; exact hL q (by omega) (fun e => h2 (Or.inl e))
          · have z := p5.1 (q - 4) (by omega)
            rw [show 4 + (q - 4) = q from by omega, Nat.zero_add] at z
            rw [z]
            show s1 9 _ = _
            rw [h9s, h9 _ (by omega), show 4 + (q - 4) = q from by omega])) (fun q h1 h2 => p5.2 q (by omega)) (by decide) (by decide) (by decide) (by decide) (by decide) (by decide)
      have hL := hL.tr (fun q h1 h2 => p5.2 q (by omega))
      refine And.intro rfl ?_
      exact hQ _ _ hF ⟨hI, hL⟩
    · intro z6 t6 e6 l6 h6
      try have w6 : t6 = 0 := by omega
      refine s_deals (σ := s1) (n := 5) (fr := z6) hI.1 (by omega) (by omega) (by omega) (fun σ7 f7 p7 => ?_)
      have hF := hF.tr f7 (by decide) (by decide)
      have hI := hI.g f7 p7.1 p7.2 (by decide) (by decide) (by decide) (by decide) (by decide) (by decide)
      have hL := hL.tr p7.2
      have h9s : σ7 9 = σ1 9 := (f7.1 9 (by decide) (by decide)).trans h9s
      refine And.intro (Nat.le_of_ble_eq_true rfl) ?_
      show xw _ _ _ _ _ _ _ _ _ _ [xvr 0, xvi i, xvi j, xvi n, xvi fr, xvi won, xvi g, xvi 0, u3_8] _ _
      have lp_34 : ∀ (m34 : Nat) (k : Int) (s2 : xS), ((6 - k).toNat) = m34 → (Fr [2, 7, 9, 20, 21] [24, 49, 51] σ s2 ∧ RK σ s2 ∧ LPx (σ 2) (s2 2) ∧ s2 9 = σ1 9 ∧ 0 ≤ k) → X 34 [xvr 0, xvi i, xvi j, xvi n, xvi fr, xvi won, xvi g, xvi k, u3_8] s2 := by
        intro m34
        induction m34 using Nat.strongRecOn with
        | _ m34 ih_34 =>
        intro k s2 hm_34 hv_34
        obtain ⟨hF, hI, hL, h9s, hv_34⟩ := hv_34
        have hb0 := hI.1.kinds; have hb1 := hI.1.persons
        have q0 : s2 2 0 = σ 2 0 := hL 0 (by omega) (by omega)
        have q1 : s2 2 1 = σ 2 1 := hL 1 (by omega) (by omega)
        refine hX 400 34 _ _ ?_
        refine And.intro (rfl) (And.intro (⟨by omega, by omega⟩) ?_)
        intro v9 e9 l9 h9
        have e9 : v9 = s2 2 1 := e9
        refine And.intro (fun c10 => ?_) (fun c10 => ?_)
        · intro v11 e11 l11 h11
          have e11 : v11 = s2 0 51 := e11
          refine s_plays (σ := s2) (n := 300) (told := 0) hI.1 (by omega) (by omega) (fun r12 σ12 f12 p12 => ?_)
          have hF := hF.tr f12 (by decide) (by decide)
          have hI := hI.tr p12.1
          have hL := hL.tr p12.2
          have h9s : σ12 9 = σ1 9 := (f12.1 9 (by decide) (by decide)).trans h9s
          have hb1 := hI.1.persons
          intro z13 t13 e13 l13 h13
          try have w13 : t13 = 0 := by omega
          have hF := hF.p (j := 51) (v := z13) (by decide)
          have hI := hI.p0 (j := 51) (v := z13) (by decide) (by decide) (by decide)
          refine And.intro (Nat.le_of_ble_eq_true rfl) ?_
          show xw _ _ _ _ _ _ _ _ _ _ [xvr 0, xvi i, xvi j, xvi n, xvi fr, xvi won, xvi g, xvi 1, u3_8] _ _
          refine And.intro (Nat.le_of_ble_eq_true rfl) ?_
          show xw _ _ _ _ _ _ _ _ _ _ [xvr 0, xvi i, xvi j, xvi n, xvi fr, xvi won, xvi g, xvi 1, xvi 1] _ _
          have lp_91 : ∀ (m91 : Nat) (is : Int) (k2 : Int), ((6 - k2).toNat) = m91 → (1 ≤ k2) → X 91 [xvr 0, xvi i, xvi j, xvi n, xvi fr, xvi won, xvi g, xvi is, xvi k2] (xput σ12 0 51 z13) := by
            intro m91
            induction m91 using Nat.strongRecOn with
            | _ m91 ih_91 =>
            intro is k2 hm_91 hv_91
            refine hX 400 91 _ _ ?_
            refine And.intro (rfl) (And.intro (⟨by omega, by omega⟩) ?_)
            intro v16 e16 l16 h16
            have e16 : v16 = σ12 2 1 := e16
            refine And.intro (fun c17 => ?_) (fun c17 => ?_)
            · refine And.intro (fun c18 => ?_) (fun c18 => ?_)
              · intro z19 t19 e19 l19 h19
                try have w19 : t19 = 0 := by omega
                refine And.intro (Nat.le_of_ble_eq_true rfl) ?_
                show xw _ _ _ _ _ _ _ _ _ _ [xvr 0, xvi i, xvi j, xvi n, xvi fr, xvi z19, xvi g, xvi is, xvi k2] _ _
                intro z20 t20 e20 l20 h20
                try have w20 : t20 = 0 := by omega
                show xw _ _ _ _ _ _ _ _ _ _ [xvr 0, xvi i, xvi j, xvi n, xvi fr, xvi z19, xvi z20, xvi is, xvi k2] _ _
                exact ih_15 _ (show (30 - z20).toNat < m15 from by omega) z19 z20 (xvi is) (xvi k2) (xput σ12 0 51 z13) rfl ⟨hF, hI, hL, h9s, by omega⟩
              · intro z21 t21 e21 l21 h21
                try have w21 : t21 = 0 := by omega
                refine And.intro (Nat.le_of_ble_eq_true rfl) ?_
                show xw _ _ _ _ _ _ _ _ _ _ [xvr 0, xvi i, xvi j, xvi n, xvi fr, xvi z21, xvi g, xvi is, xvi k2] _ _
                intro z22 t22 e22 l22 h22
                try have w22 : t22 = 0 := by omega
                show xw _ _ _ _ _ _ _ _ _ _ [xvr 0, xvi i, xvi j, xvi n, xvi fr, xvi z21, xvi z22, xvi is, xvi k2] _ _
                exact ih_15 _ (show (30 - z22).toNat < m15 from by omega) z21 z22 (xvi is) (xvi k2) (xput σ12 0 51 z13) rfl ⟨hF, hI, hL, h9s, by omega⟩
            · have lp_125 : ∀ (_ : Unit), (True) → X 125 [xvr 0, xvi i, xvi j, xvi n, xvi fr, xvi won, xvi g, xvi is, xvi k2] (xput σ12 0 51 z13) := by
                intro _ hv_125
                refine hX 400 125 _ _ ?_
                refine And.intro (Nat.le_of_ble_eq_true rfl) ?_
                show xw _ _ _ _ _ _ _ _ _ _ [xvr 0, xvi i, xvi j, xvi n, xvi fr, xvi won, xvi g, xvi 0, xvi k2] _ _
                intro z24 t24 e24 l24 h24
                try have w24 : t24 = 0 := by omega
                show xw _ _ _ _ _ _ _ _ _ _ [xvr 0, xvi i, xvi j, xvi n, xvi fr, xvi won, xvi g, xvi 0, xvi z24] _ _
                exact ih_91 _ (show (6 - z24).toNat < m91 from by omega) 0 z24 rfl (show 1 ≤ z24 from by first | trivial | omega | (refine ⟨by assumption, ?_⟩; omega) | (refine ⟨?_, ?_⟩ <;> omega))
              refine And.intro (fun c25 => ?_) (fun c25 => ?_)
              · exact lp_125 () (show True from by first | trivial | omega | (refine ⟨by assumption, ?_⟩; omega) | (refine ⟨?_, ?_⟩ <;> omega))
              · refine s_booksOf (σ := (xput σ12 0 51 z13)) (k := 0) (fun r26 => ?_)
                refine s_booksOf (σ := (xput σ12 0 51 z13)) (k := k2) (fun r27 => ?_)
                refine And.intro (fun c28 => ?_) (fun c28 => ?_)
                · exact lp_125 () (show True from by first | trivial | omega | (refine ⟨by assumption, ?_⟩; omega) | (refine ⟨?_, ?_⟩ <;> omega))
                · refine And.intro (Nat.le_of_ble_eq_true rfl) ?_
                  show xw _ _ _ _ _ _ _ _ _ _ [xvr 0, xvi i, xvi j, xvi n, xvi fr, xvi won, xvi g, xvi 1, xvi k2] _ _
                  intro z29 t29 e29 l29 h29
                  try have w29 : t29 = 0 := by omega
                  show xw _ _ _ _ _ _ _ _ _ _ [xvr 0, xvi i, xvi j, xvi n, xvi fr, xvi won, xvi g, xvi 1, xvi z29] _ _
                  exact ih_91 _ (show (6 - z29).toNat < m91 from by omega) 1 z29 rfl (show 1 ≤ z29 from by first | trivial | omega | (refine ⟨by assumption, ?_⟩; omega) | (refine ⟨?_, ?_⟩ <;> omega))
          exact lp_91 _ 1 1 rfl (show 1 ≤ 1 from by first | trivial | omega | (refine ⟨by assumption, ?_⟩; omega) | (refine ⟨?_, ?_⟩ <;> omega))
        · refine And.intro (fun c30 => ?_) (fun c30 => ?_)
          · refine And.intro (rfl) (And.intro (⟨by omega, by omega⟩) ?_)
            have hF := hF.pt (t := 20) (j := k.toNat) (v := j) (by decide) (by decide)
            have hI := hI.pt (t := 20) (j := k.toNat) (v := j) (by decide) (by decide) (by decide) (by decide) (by decide)
            intro z32 t32 e32 l32 h32
            try have w32 : t32 = 0 := by omega
            show xw _ _ _ _ _ _ _ _ _ _ [xvr 0, xvi i, xvi j, xvi n, xvi fr, xvi won, xvi g, xvi z32, u3_8] _ _
            exact ih_34 _ (show (6 - z32).toNat < m34 from by omega) z32 (xput s2 20 k.toNat j) rfl ⟨hF, hI, hL, h9s, by omega⟩
          · refine And.intro (rfl) (And.intro (⟨by omega, by omega⟩) ?_)
            have hF := hF.pt (t := 20) (j := k.toNat) (v := i) (by decide) (by decide)
            have hI := hI.pt (t := 20) (j := k.toNat) (v := i) (by decide) (by decide) (by decide) (by decide) (by decide)
            intro z34 t34 e34 l34 h34
            try have w34 : t34 = 0 := by omega
            show xw _ _ _ _ _ _ _ _ _ _ [xvr 0, xvi i, xvi j, xvi n, xvi fr, xvi won, xvi g, xvi z34, u3_8] _ _
            exact ih_34 _ (show (6 - z34).toNat < m34 from by omega) z34 (xput s2 20 k.toNat i) rfl ⟨hF, hI, hL, h9s, by omega⟩
      exact lp_34 _ 0 σ7 rfl ⟨hF, hI, hL, h9s, by omega⟩
  exact lp_15 _ 0 0 (xvu) (xvu) (xput σ1 0 51 0) rfl ⟨hF, hI, hL, rfl, by omega⟩
set_option maxHeartbeats 4000000 in
set_option maxRecDepth 100000 in
theorem s_games {σ : xS} {i j n fr : Int} {Q : Option xV → xS → Prop} (hI : RI σ) (hQ : ∀ r : Int, ∀ σ' : xS, RK σ σ' → Q (some (xvi r)) σ') : xT kX11_games [xvr 0, xvi i, xvi j, xvi n, xvi fr] σ Q := by
  refine ⟨Nat.le_of_ble_eq_true rfl, fun X hX => ?_⟩
  show X 0 [xvr 0, xvi i, xvi j, xvi n, xvi fr] σ
  have hI : RK σ σ := RK.rf hI
  have hb0 := hI.1.kinds; have hb1 := hI.1.persons
  refine hX 400 0 _ _ ?_
  have hI := hI.p0 (j := 0) (v := 0) (by decide) (by decide) (by decide)
  refine s_areGames (σ := (xput σ 0 0 0)) (i := i) (j := j) (n := n) hI.1 (fun r2 p2 => ?_)
  have p2 : (r2 = 1 ∧ (1 ≤ n ∧ n ≤ 30) ∧ 2 ≤ σ 2 1 ∧ 5 * σ 2 1 ≤ 4 * σ 2 0) ∨ (r2 = 0 ∧ (0 : Int) ≤ 0) := by
    rcases p2 with q | q
    · exact Or.inl q
    · exact Or.inr ⟨q, by omega⟩
  refine And.intro (fun c3 => ?_) (fun c3 => ?_)
  · replace p2 : (0 : Int) ≤ 0 := by
      rcases p2 with q | q
      · exact absurd q.1 (by omega)
      · exact q.2
    refine And.intro rfl ?_
    exact hQ _ _ hI 
  · replace p2 : (1 ≤ n ∧ n ≤ 30) ∧ 2 ≤ σ 2 1 ∧ 5 * σ 2 1 ≤ 4 * σ 2 0 := by
      rcases p2 with q | q
      · exact q.2
      · exact absurd q.1 (by omega)
    refine s_gamesOf (σ := (xput σ 0 0 0)) (i := i) (j := j) (n := n) (fr := fr) hI.1 (by omega) ((show 2 ≤ σ 2 1 from by omega)) ((show 5 * σ 2 1 ≤ 4 * σ 2 0 from by omega)) (fun r4 σ4 f4 p4 => ?_)
    have hI := hI.tr p4.1
    have l0_4 := p4.2 0 (by omega) (by omega); have l1_4 := p4.2 1 (by omega) (by omega)
    refine And.intro rfl ?_
    exact hQ _ _ hI 
set_option maxHeartbeats 4000000 in
set_option maxRecDepth 100000 in
theorem s_length {σ : xS} {i j n fr : Int} {Q : Option xV → xS → Prop} (hI : RI σ) (hQ : ∀ r : Int, ∀ σ' : xS, RK σ σ' → Q (some (xvi r)) σ') : xT kX11_length [xvr 0, xvi i, xvi j, xvi n, xvi fr] σ Q := by
  refine ⟨Nat.le_of_ble_eq_true rfl, fun X hX => ?_⟩
  show X 0 [xvr 0, xvi i, xvi j, xvi n, xvi fr] σ
  have hI : RK σ σ := RK.rf hI
  have hb0 := hI.1.kinds; have hb1 := hI.1.persons
  refine hX 400 0 _ _ ?_
  have hI := hI.p0 (j := 0) (v := 0) (by decide) (by decide) (by decide)
  refine s_areGames (σ := (xput σ 0 0 0)) (i := i) (j := j) (n := n) hI.1 (fun r2 p2 => ?_)
  have p2 : (r2 = 1 ∧ (1 ≤ n ∧ n ≤ 30) ∧ 2 ≤ σ 2 1 ∧ 5 * σ 2 1 ≤ 4 * σ 2 0) ∨ (r2 = 0 ∧ (0 : Int) ≤ 0) := by
    rcases p2 with q | q
    · exact Or.inl q
    · exact Or.inr ⟨q, by omega⟩
  refine And.intro (fun c3 => ?_) (fun c3 => ?_)
  · replace p2 : (1 ≤ n ∧ n ≤ 30) ∧ 2 ≤ σ 2 1 ∧ 5 * σ 2 1 ≤ 4 * σ 2 0 := by
      rcases p2 with q | q
      · exact q.2
      · exact absurd q.1 (by omega)
    refine s_gamesOf (σ := (xput σ 0 0 0)) (i := i) (j := j) (n := n) (fr := fr) hI.1 (by omega) ((show 2 ≤ σ 2 1 from by omega)) ((show 5 * σ 2 1 ≤ 4 * σ 2 0 from by omega)) (fun r4 σ4 f4 p4 => ?_)
    have hI := hI.tr p4.1
    have l0_4 := p4.2 0 (by omega) (by omega); have l1_4 := p4.2 1 (by omega) (by omega)
    intro v5 e5 l5 h5
    have e5 : v5 = σ4 0 51 := e5
    refine And.intro rfl ?_
    exact hQ _ _ hI 
  · replace p2 : (0 : Int) ≤ 0 := by
      rcases p2 with q | q
      · exact absurd q.1 (by omega)
      · exact q.2
    refine And.intro rfl ?_
    exact hQ _ _ hI 
set_option maxHeartbeats 4000000 in
set_option maxRecDepth 100000 in
theorem s_reply {σ : xS} {j n fr : Int} {Q : Option xV → xS → Prop} (hI : RI σ) (hQ : ∀ r : Int, ∀ σ' : xS, RK σ σ' → Q (some (xvi r)) σ') : xT kX11_reply [xvr 0, xvi j, xvi n, xvi fr] σ Q := by
  refine ⟨Nat.le_of_ble_eq_true rfl, fun X hX => ?_⟩
  show X 0 [xvr 0, xvi j, xvi n, xvi fr, xvu, xvu, xvu, xvu] σ
  have hI : RK σ σ := RK.rf hI
  have hb0 := hI.1.kinds; have hb1 := hI.1.persons
  refine hX 400 0 _ _ ?_
  have hI := hI.p0 (j := 0) (v := 0) (by decide) (by decide) (by decide)
  refine s_areGames (σ := (xput σ 0 0 0)) (i := 0) (j := j) (n := n) hI.1 (fun r2 p2 => ?_)
  have p2 : (r2 = 1 ∧ (1 ≤ n ∧ n ≤ 30) ∧ 2 ≤ σ 2 1 ∧ 5 * σ 2 1 ≤ 4 * σ 2 0) ∨ (r2 = 0 ∧ (0 : Int) ≤ 0) := by
    rcases p2 with q | q
    · exact Or.inl q
    · exact Or.inr ⟨q, by omega⟩
  refine And.intro (fun c3 => ?_) (fun c3 => ?_)
  · replace p2 : (1 ≤ n ∧ n ≤ 30) ∧ 2 ≤ σ 2 1 ∧ 5 * σ 2 1 ≤ 4 * σ 2 0 := by
      rcases p2 with q | q
      · exact q.2
      · exact absurd q.1 (by omega)
    refine And.intro (Nat.le_of_ble_eq_true rfl) ?_
    show xw _ _ _ _ _ _ _ _ _ _ [xvr 0, xvi j, xvi n, xvi fr, xvi (-1), xvu, xvu, xvu] _ _
    refine And.intro (Nat.le_of_ble_eq_true rfl) ?_
    show xw _ _ _ _ _ _ _ _ _ _ [xvr 0, xvi j, xvi n, xvi fr, xvi (-1), xvi (-1), xvu, xvu] _ _
    refine And.intro (Nat.le_of_ble_eq_true rfl) ?_
    show xw _ _ _ _ _ _ _ _ _ _ [xvr 0, xvi j, xvi n, xvi fr, xvi (-1), xvi (-1), xvi 0, xvu] _ _
    have lp_26 : ∀ (m26 : Nat) (best : Int) (most : Int) (i : Int) (u4_7 : xV) (s1 : xS), ((4 - i).toNat) = m26 → (RK σ s1 ∧ (0 ≤ i ∧ s1 2 0 = σ 2 0 ∧ s1 2 1 = σ 2 1)) → X 26 [xvr 0, xvi j, xvi n, xvi fr, xvi best, xvi most, xvi i, u4_7] s1 := by
      intro m26
      induction m26 using Nat.strongRecOn with
      | _ m26 ih_26 =>
      intro best most i u4_7 s1 hm_26 hv_26
      obtain ⟨hI, hv_26⟩ := hv_26
      refine hX 400 26 _ _ ?_
      refine And.intro (fun c5 => ?_) (fun c5 => ?_)
      · refine And.intro rfl ?_
        exact hQ _ _ hI 
      · refine s_gamesOf (σ := s1) (i := i) (j := j) (n := n) (fr := fr) hI.1 (by omega) (by omega) (by omega) (fun r6 σ6 f6 p6 => ?_)
        have hI := hI.tr p6.1
        have l0_6 := p6.2 0 (by omega) (by omega); have l1_6 := p6.2 1 (by omega) (by omega)
        refine And.intro (Nat.le_of_ble_eq_true rfl) ?_
        show xw _ _ _ _ _ _ _ _ _ _ [xvr 0, xvi j, xvi n, xvi fr, xvi best, xvi most, xvi i, xvi r6] _ _
        refine And.intro (fun c7 => ?_) (fun c7 => ?_)
        · refine And.intro (Nat.le_of_ble_eq_true rfl) ?_
          show xw _ _ _ _ _ _ _ _ _ _ [xvr 0, xvi j, xvi n, xvi fr, xvi best, xvi r6, xvi i, xvi r6] _ _
          refine And.intro (Nat.le_of_ble_eq_true rfl) ?_
          show xw _ _ _ _ _ _ _ _ _ _ [xvr 0, xvi j, xvi n, xvi fr, xvi i, xvi r6, xvi i, xvi r6] _ _
          refine hX 400 61 _ _ ?_
          intro z8 t8 e8 l8 h8
          try have w8 : t8 = 0 := by omega
          show xw _ _ _ _ _ _ _ _ _ _ [xvr 0, xvi j, xvi n, xvi fr, xvi i, xvi r6, xvi z8, xvi r6] _ _
          exact ih_26 _ (show (4 - z8).toNat < m26 from by omega) i r6 z8 (xvi r6) σ6 rfl ⟨hI, by omega⟩
        · refine hX 400 61 _ _ ?_
          intro z9 t9 e9 l9 h9
          try have w9 : t9 = 0 := by omega
          show xw _ _ _ _ _ _ _ _ _ _ [xvr 0, xvi j, xvi n, xvi fr, xvi best, xvi most, xvi z9, xvi r6] _ _
          exact ih_26 _ (show (4 - z9).toNat < m26 from by omega) best most z9 (xvi r6) σ6 rfl ⟨hI, by omega⟩
    exact lp_26 _ (-1) (-1) 0 (xvu) (xput σ 0 0 0) rfl ⟨hI, (show (0 : Int) ≤ 0 ∧ σ 2 0 = σ 2 0 ∧ σ 2 1 = σ 2 1 from by omega)⟩
  · replace p2 : (0 : Int) ≤ 0 := by
      rcases p2 with q | q
      · exact absurd q.1 (by omega)
      · exact q.2
    refine And.intro rfl ?_
    exact hQ _ _ hI 
