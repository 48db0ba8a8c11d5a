set_option maxHeartbeats 4000000 in
set_option maxRecDepth 100000 in
theorem s_playF {σ : xS} {n : Int} {Q : Option xV → xS → Prop} (hp0 : RI σ) (hp1 : TV (σ 2)) (hp2 : BYx (σ 1) (σ 0 2)) (hQ : ∀ r : Int, ∀ σ' : xS, Fr [2, 7, 8, 20] [0, 2, 3, 4, 5, 24, 27] σ σ' → (σ' 0 2 = 0 ∧ ((¬ RLS (σ 2) (σ 1) (σ 0 2) n ∧ r = -1 ∧ SAMEx σ σ') ∨ (RLS (σ 2) (σ 1) (σ 0 2) n ∧ ((σ 2 4 = -1 ∧ r = 0 ∧ SAMEx σ σ') ∨ (¬ σ 2 4 = -1 ∧ KPT (σ 0 27) (σ' 0 27) (σ 8) (σ' 8) (σ 2) ∧ (TV (σ' 2) ∧ (∀ i : Nat, i < 4 ∨ 571 ≤ i → σ' 2 i = σ 2 i) ∧ (0 ≤ r ∧ r ≤ n)) ∧ σ' 2 = plyN (σ 2) (σ 1) n.toNat ∧ r = plyD (σ 2) (σ 1) n.toNat ∧ (((1 : Int) = 0 ∧ σ' 7 = σ 7 ∧ σ' 0 24 = σ 0 24) ∨ (¬ (1 : Int) = 0 ∧ (∀ i : Nat, i < 8 → σ' 7 i = plyR (σ 7) (σ 2) (σ 1) n.toNat i) ∧ ((r = 0 ∧ σ' 0 24 = σ 0 24) ∨ (0 < r ∧ σ' 0 24 = 1))))))))) → Q (some (xvi r)) σ') : xT kX11_play [xvr 0, xvi n] σ Q := by
  refine ⟨Nat.le_of_ble_eq_true rfl, fun X hX => ?_⟩
  show X 0 [xvr 0, xvi n, xvu] σ
  have hF : Fr [2, 7, 8, 20] [0, 2, 3, 4, 5, 24, 27] σ σ := Fr.rf
  refine hX 400 0 _ _ ?_
  obtain ⟨hVx, hT2, hT6, hT4⟩ := id hp1
  have m1 := hVx.1.1.2.1
  have h27 := hp0.2.2.2.1
  have hlen := hp0.len
  have hF := hF.p (j := 0) (v := 0) (by decide)
  refine s_taken (σ := (xput σ 0 0 0)) (most := 940) (fun σ2 f2 p2 => ?_)
  have p2 : σ2 0 3 = σ 0 2 ∧ σ2 0 2 = 0 ∧ σ2 0 4 = 0 ∧ σ2 0 5 = 940 := p2
  have hF := hF.tr f2 (by decide) (by decide)
  obtain ⟨q3, q2, q4, q5⟩ := p2
  have t2 : σ2 2 = σ 2 := f2.1 2 (by decide) (by decide)
  have t7 : σ2 7 = σ 7 := f2.1 7 (by decide) (by decide)
  have t8 : σ2 8 = σ 8 := f2.1 8 (by decide) (by decide)
  have t1 : σ2 1 = σ 1 := f2.1 1 (by decide) (by decide)
  have t24 : σ2 0 24 = σ 0 24 := f2.2 24 (by decide)
  have t27 : σ2 0 27 = σ 0 27 := f2.2 27 (by decide)
  have t21 := congrFun t2 1
  have t24_ := congrFun t2 4
  refine s_isIn (σ := σ2) (v := n) (low := 1) (high := 400) (fun r3 p3 => ?_)
  have lp_46 : ∀ (_ : Unit), (¬ RLS (σ 2) (σ 1) (σ 0 2) n) → X 46 [xvr 0, xvi n, xvu] σ2 := by
    intro _ hv_46
    refine hX 400 46 _ _ ?_
    refine And.intro rfl ?_
    exact hQ _ _ hF ⟨q2, Or.inl ⟨hv_46, rfl, t2, t7, t8, t24, t27⟩⟩
  refine And.intro (fun c5 => ?_) (fun c5 => ?_)
  · exact lp_46 () (fun z => by obtain ⟨z1, z2, z3, z4⟩ := z; omega)
  · refine And.intro (rfl) (And.intro (⟨by omega, by omega⟩) ?_)
    intro v6 e6 l6 h6
    have e6 : v6 = σ2 2 1 := e6
    refine And.intro (fun c7 => ?_) (fun c7 => ?_)
    · exact lp_46 () (fun z => by obtain ⟨z1, z2, z3, z4⟩ := z; omega)
    · intro v8 e8 l8 h8
      have e8 : v8 = σ2 0 3 := e8
      refine And.intro (rfl) (And.intro (⟨by omega, by omega⟩) ?_)
      intro v9 e9 l9 h9
      have e9 : v9 = σ2 2 1 := e9
      refine And.intro (fun c10 => ?_) (fun c10 => ?_)
      · refine And.intro (Nat.le_of_ble_eq_true rfl) ?_
        show xw _ _ _ _ _ _ _ _ _ _ [xvr 0, xvi n, xvi 0] _ _
        have lp_50 : ∀ (m50 : Nat) (k : Int) (s1 : xS), ((6 - k).toNat) = m50 → (Fr [2, 7, 8, 20] [0, 2, 3, 4, 5, 24, 27] σ s1 ∧ (s1 2 = σ 2 ∧ s1 7 = σ 7 ∧ s1 8 = σ 8 ∧ s1 0 24 = σ 0 24 ∧ s1 0 27 = σ 0 27 ∧ s1 0 2 = 0 ∧ s1 0 3 = σ 0 2) ∧ (∀ q : Nat, (q : Int) < k → s1 20 q = σ 1 q ∧ 0 ≤ σ 1 q ∧ σ 1 q ≤ 3) ∧ (0 ≤ k ∧ k ≤ σ 2 1)) → X 50 [xvr 0, xvi n, xvi k] s1 := by
          intro m50
          induction m50 using Nat.strongRecOn with
          | _ m50 ih_50 =>
          intro k s1 hm_50 hv_50
          obtain ⟨hF, hE, hR, hv_50⟩ := hv_50
          obtain ⟨h2s, h7s, h8s, h24s, h27s, h02s, h03s⟩ := id hE
          have t1s : s1 1 = σ 1 := hF.1 1 (by decide) (by decide)
          have u4 := congrFun h2s 4
          refine hX 400 50 _ _ ?_
          intro v12 e12 l12 h12
          have e12 : v12 = s1 0 3 := e12
          refine And.intro (fun c13 => ?_) (fun c13 => ?_)
          · refine And.intro (rfl) (And.intro (⟨by omega, by omega⟩) ?_)
            intro v14 e14 l14 h14
            have e14 : v14 = s1 2 4 := e14
            refine And.intro (fun c15 => ?_) (fun c15 => ?_)
            · refine s_keepF (σ := s1) (by rw [h27s]; exact h27) (fun σ16 f16 p16 => ?_)
              have k2 : σ16 2 = σ 2 := (f16.1 2 (by decide) (by decide)).trans h2s
              rw [h27s, h8s, h2s] at p16
              have k20 : σ16 20 = s1 20 := f16.1 20 (by decide) (by decide)
              have k02 : σ16 0 2 = 0 := (f16.2 2 (by decide)).trans h02s
              have k7 : σ16 7 = σ 7 := (f16.1 7 (by decide) (by decide)).trans h7s
              have k24 : σ16 0 24 = σ 0 24 := (f16.2 24 (by decide)).trans h24s
              have hF := hF.tr f16 (by decide) (by decide)
              refine s_playsF (R := σ 1) (σ := σ16) (n := n) (told := 1) (by rw [k2]; exact hp1) (by rw [k2]; omega) (by omega) (fun q hq => by rw [k20]; rw [k2] at hq; exact (hR q (by omega)).1) (fun r17 σ17 f17 p17 => ?_)
              rw [k2, k7, k24] at p17
              have j27 : σ17 0 27 = σ16 0 27 := f17.2 27 (by decide)
              have j8 : σ17 8 = σ16 8 := f17.1 8 (by decide) (by decide)
              have j02 : σ17 0 2 = 0 := (f17.2 2 (by decide)).trans k02
              have hF := hF.tr f17 (by decide) (by decide)
              refine And.intro rfl ?_
              exact hQ _ _ hF ⟨j02, Or.inr ⟨⟨by omega, by omega, by omega, fun q hq => (hR q (by omega)).2⟩, Or.inr ⟨by omega, (by rw [j27, j8]; exact p16), p17⟩⟩⟩
            · refine And.intro rfl ?_
              exact hQ _ _ hF ⟨h02s, Or.inr ⟨⟨by omega, by omega, by omega, fun q hq => (hR q (by omega)).2⟩, Or.inl ⟨by omega, rfl, ⟨h2s, h7s, h8s, h24s, h27s⟩⟩⟩⟩
          · have hby := hp2 k.toNat (by omega)
            refine s_octetF (σ := s1) (k := k) (by omega) (by rw [t1s]; omega) (fun r18 p18 => ?_)
            rw [t1s] at p18
            refine And.intro (fun c19 => ?_) (fun c19 => ?_)
            · have hby := hp2 k.toNat (by omega)
              refine s_octetF (σ := s1) (k := k) (by omega) (by rw [t1s]; omega) (fun r20 p20 => ?_)
              rw [t1s] at p20
              refine And.intro (rfl) (And.intro (⟨by omega, by omega⟩) ?_)
              have hF := hF.pt (t := 20) (j := k.toNat) (v := r20) (by decide) (by decide)
              intro z22 t22 e22 l22 h22
              try have w22 : t22 = 0 := by omega
              show xw _ _ _ _ _ _ _ _ _ _ [xvr 0, xvi n, xvi z22] _ _
              exact ih_50 _ (show (6 - z22).toNat < m50 from by omega) z22 (xput s1 20 k.toNat r20) rfl ⟨hF, hE, (fun q hq => by
                        by_cases e : q = k.toNat
                        · rw [show q = k.toNat from by omega, xput_s]; rw [show k.toNat = k.toNat from by omega]; omega
                        · rw [xput_o (by omega)]; exact hR q (by omega)), by omega⟩
            · refine And.intro rfl ?_
              exact hQ _ _ hF ⟨h02s, Or.inl ⟨fun z => by
                obtain ⟨z1, z2, z3, z4⟩ := z
                have y := z4 k.toNat (by omega)
                have x := p18.2.2.1.mpr y
                omega, rfl, ⟨h2s, h7s, h8s, h24s, h27s⟩⟩⟩
        exact lp_50 _ 0 σ2 rfl ⟨hF, ⟨t2, t7, t8, t24, t27, q2, q3⟩, (fun q hq => by omega), by omega⟩
      · exact lp_46 () (fun z => by obtain ⟨z1, z2, z3, z4⟩ := z; omega)

