set_option maxHeartbeats 4000000 in
set_option maxRecDepth 100000 in
theorem sX4_nextState {σ : xS} {Q : Option xV → xS → Prop} (hp0 : 0 ≤ σ 0 5 ∧ σ 0 5 ≤ 6) (hp1 : ∀ i : Nat, (i : Int) < σ 0 5 → 0 ≤ σ 4 i ∧ σ 4 i ≤ 4) (hp2 : ∀ i : Nat, (i : Int) < σ 0 5 → 0 ≤ σ 5 i ∧ σ 5 i ≤ σ 4 i) (hQ : ∀ r : Int, ∀ σ' : xS, Fr [5] [] σ σ' → ((∀ i : Nat, (i : Int) < σ 0 5 → 0 ≤ σ' 5 i ∧ σ' 5 i ≤ σ 4 i) ∧ sm (σ 0 5).toNat (σ' 5) = sm (σ 0 5).toNat (σ 5) + r) → Q (some (xvi r)) σ') : xT kX4_nextState [xvr 0] σ Q := by
  refine ⟨Nat.le_of_ble_eq_true rfl, fun X hX => ?_⟩
  show X 0 [xvr 0, xvu, xvu] σ
  have hF : Fr [5] [] σ σ := Fr.rf
  refine hX 400 0 _ _ ?_
  refine And.intro (Nat.le_of_ble_eq_true rfl) ?_
  show xw _ _ _ _ _ _ _ _ _ _ [xvr 0, xvi 0, xvu] _ _
  refine And.intro (Nat.le_of_ble_eq_true rfl) ?_
  show xw _ _ _ _ _ _ _ _ _ _ [xvr 0, xvi 0, xvi 0] _ _
  have lp_4 : ∀ (m4 : Nat) (more : Int) (i : Int) (s1 : xS), ((6 - i).toNat) = m4 → (Fr [5] [] σ s1 ∧ s1 0 5 = σ 0 5 ∧ (∀ q : Nat, (q : Int) < σ 0 5 → 0 ≤ s1 5 q ∧ s1 5 q ≤ σ 4 q) ∧ sm (σ 0 5).toNat (s1 5) = sm (σ 0 5).toNat (σ 5) + more ∧ (0 ≤ i ∧ i ≤ 6 ∧ -4 * i ≤ more ∧ more ≤ 0)) → X 4 [xvr 0, xvi more, xvi i] s1 := by
    intro m4
    induction m4 using Nat.strongRecOn with
    | _ m4 ih_4 =>
    intro more i s1 hm_4 hv_4
    obtain ⟨hF, h05, hU, hsu, hv_4⟩ := hv_4
    have h4s : s1 4 = σ 4 := hF.1 4 (by decide) (by decide)
    refine hX 400 4 _ _ ?_
    intro v2 e2 l2 h2
    have e2 : v2 = s1 0 5 := e2
    refine And.intro (fun c3 => ?_) (fun c3 => ?_)
    · refine And.intro rfl ?_
      exact hQ _ _ hF ⟨hU, by omega⟩
    · refine And.intro (rfl) (And.intro (⟨by omega, by omega⟩) ?_)
      intro v4 e4 l4 h4
      have e4 : v4 = s1 5 i.toNat := e4
      have huv4 := hU i.toNat (by omega)
      have huxv4 : v4 = s1 5 i.toNat := by rw [e4]
      rw [← huxv4] at huv4
      refine And.intro (rfl) (And.intro (⟨by omega, by omega⟩) ?_)
      intro v5 e5 l5 h5
      have e5 : v5 = s1 4 i.toNat := e5
      have hrrv5 := hp1 i.toNat (by omega)
      have hrxv5 : v5 = σ 4 i.toNat := by rw [e5, h4s]
      rw [← hrxv5] at hrrv5
      refine And.intro (fun c6 => ?_) (fun c6 => ?_)
      · refine And.intro (rfl) (And.intro (⟨by omega, by omega⟩) ?_)
        intro v7 e7 l7 h7
        have e7 : v7 = s1 5 i.toNat := e7
        have huv7 := hU i.toNat (by omega)
        have huxv7 : v7 = s1 5 i.toNat := by rw [e7]
        rw [← huxv7] at huv7
        intro z8 t8 e8 l8 h8
        try have w8 : t8 = 0 := by omega
        refine And.intro (Nat.le_of_ble_eq_true rfl) ?_
        show xw _ _ _ _ _ _ _ _ _ _ [xvr 0, xvi z8, xvi i] _ _
        refine And.intro (rfl) (And.intro (⟨by omega, by omega⟩) ?_)
        have hF := hF.pt (t := 5) (j := i.toNat) (v := 0) (by decide) (by decide)
        intro z10 t10 e10 l10 h10
        try have w10 : t10 = 0 := by omega
        show xw _ _ _ _ _ _ _ _ _ _ [xvr 0, xvi z8, xvi z10] _ _
        exact ih_4 _ (show (6 - z10).toNat < m4 from by omega) z8 z10 (xput s1 5 i.toNat 0) rfl ⟨hF, h05, (fun q hq => by
                    by_cases e : q = i.toNat
                    · rw [show q = i.toNat from by omega, xput_s]; have := hp1 i.toNat (by omega); rw [show i.toNat = i.toNat from by omega]; omega
                    · rw [xput_o (by omega)]; exact hU q hq), (by
                    have z := sm_upd (n := (σ 0 5).toNat) (g := s1 5) (g' := xput s1 5 i.toNat 0 5) (j := i.toNat) (by omega) (fun q _ hne => xput_o hne)
                    rw [xput_s] at z
                    rw [z]; omega), by omega⟩
      · refine And.intro (rfl) (And.intro (⟨by omega, by omega⟩) ?_)
        intro v11 e11 l11 h11
        have e11 : v11 = s1 5 i.toNat := e11
        have huv11 := hU i.toNat (by omega)
        have huxv11 : v11 = s1 5 i.toNat := by rw [e11]
        rw [← huxv11] at huv11
        intro z12 t12 e12 l12 h12
        try have w12 : t12 = 0 := by omega
        refine And.intro (rfl) (And.intro (⟨by omega, by omega⟩) ?_)
        have hF := hF.pt (t := 5) (j := i.toNat) (v := z12) (by decide) (by decide)
        intro z14 t14 e14 l14 h14
        try have w14 : t14 = 0 := by omega
        refine And.intro rfl ?_
        refine hQ _ _ hF ⟨(fun q hq => ?_), ?_⟩
        · by_cases e : q = i.toNat
          · rw [show q = i.toNat from by omega, xput_s, show i.toNat = i.toNat from by omega]; omega
          · rw [xput_o (by omega)]; exact hU q hq
        · have z := sm_upd (n := (σ 0 5).toNat) (g := s1 5) (g' := xput s1 5 i.toNat z12 5) (j := i.toNat) (by omega) (fun q _ hne => xput_o hne)
          rw [xput_s] at z
          rw [z]; omega
  exact lp_4 _ 0 0 σ rfl ⟨hF, rfl, hp2, by omega, by omega⟩
theorem Fr.fl2 {σ : xS} {t : Nat} {a b v : Int} (h : 0 ≠ t) : Fr [t] [] σ (xfl2 σ t a b v) := ⟨fun u h0 hn => by funext j; unfold xfl2; rw [if_neg (fun e => hn (by simp [e]))], fun j _ => by unfold xfl2; rw [if_neg h]⟩
theorem sm24 {f : Nat → Int} {n : Nat} (hn : n ≤ 6) (h : ∀ q, q < n → f q ≤ 4) : sm n f ≤ 24 := by
  have a := sm_le (n := n) (g := f) (g' := fun _ => 4) h
  rw [sm_const] at a
  omega
set_option maxHeartbeats 4000000 in
set_option maxRecDepth 100000 in
theorem sX4_countWays {σ : xS} {person kind : Int} {Q : Option xV → xS → Prop} (hp0 : 0 ≤ σ 0 5 ∧ σ 0 5 ≤ 6) (hp1 : ∀ i : Nat, (i : Int) < σ 0 5 → 0 ≤ σ 4 i ∧ σ 4 i ≤ 4) (hp2 : 0 ≤ σ 0 2 ∧ σ 0 2 ≤ 12) (hQ : ∀ r : Int, ∀ σ' : xS, Fr [5, 6, 7] [] σ σ' → Q (some (xvl r)) σ') : xT kX4_countWays [xvr 0, xvi person, xvi kind] σ Q := by
  refine ⟨Nat.le_of_ble_eq_true rfl, fun X hX => ?_⟩
  show X 0 [xvr 0, xvi person, xvi kind, xvu, xvu, xvu, xvu, xvu, xvu] σ
  have hF : Fr [5, 6, 7] [] σ σ := Fr.rf
  refine hX 400 0 _ _ ?_
  refine sX4_layOut (σ := σ) hp0 hp1 (fun r1 σ1 f1 p1 => ?_)
  have hF := hF.tr f1 (by decide) (by decide)
  have hr1 := p1.1
  refine And.intro (Nat.le_of_ble_eq_true rfl) ?_
  show xw _ _ _ _ _ _ _ _ _ _ [xvr 0, xvi person, xvi kind, xvi r1, xvu, xvu, xvu, xvu, xvu] _ _
  refine And.intro (by decide) (And.intro (by omega) ?_)
  have f2 : Fr [7] [] σ1 (xfl2 σ1 7 0 r1 0) := Fr.fl2 (by decide)
  have hF := hF.tr f2 (by decide) (by decide)
  have k5 : (xfl2 σ1 7 0 r1 0) 5 = σ1 5 := f2.1 5 (by decide) (by decide)
  have k6 : (xfl2 σ1 7 0 r1 0) 6 = σ1 6 := f2.1 6 (by decide) (by decide)
  refine And.intro rfl (And.intro (⟨by omega, by omega⟩) ?_)
  have hF := hF.pt (t := 7) (j := 0) (v := 1) (by decide) (by decide)
  refine And.intro (Nat.le_of_ble_eq_true rfl) ?_
  show xw _ _ _ _ _ _ _ _ _ _ [xvr 0, xvi person, xvi kind, xvi r1, xvl 0, xvu, xvu, xvu, xvu] _ _
  refine And.intro (Nat.le_of_ble_eq_true rfl) ?_
  show xw _ _ _ _ _ _ _ _ _ _ [xvr 0, xvi person, xvi kind, xvi r1, xvl 0, xvu, xvi 0, xvu, xvu] _ _
  refine And.intro (Nat.le_of_ble_eq_true rfl) ?_
  show xw _ _ _ _ _ _ _ _ _ _ [xvr 0, xvi person, xvi kind, xvi r1, xvl 0, xvu, xvi 0, xvi 0, xvu] _ _
  have lp_31 : ∀ (m31 : Nat) (found : Int) (full : Int) (sx : Int) (u4_8 : xV) (s1 : xS), ((15625 - sx).toNat) = m31 → (Fr [5, 6, 7] [] σ s1 ∧ (∀ q : Nat, (q : Int) ≤ σ 0 5 → 1 ≤ s1 6 q ∧ s1 6 q ≤ 15625) ∧ (∀ q : Nat, (q : Int) < σ 0 5 → 0 ≤ s1 5 q ∧ s1 5 q ≤ σ 4 q) ∧ sm (σ 0 5).toNat (s1 5) = full ∧ (0 ≤ full ∧ full ≤ 24 ∧ 0 ≤ sx)) → X 31 [xvr 0, xvi person, xvi kind, xvi r1, xvl found, xvu, xvi full, xvi sx, u4_8] s1 := by
    intro m31
    induction m31 using Nat.strongRecOn with
    | _ m31 ih_31 =>
    intro found full sx u4_8 s1 hm_31 hv_31
    obtain ⟨hF, hst, hus, hfu, hv_31⟩ := hv_31
    have h05 : s1 0 5 = σ 0 5 := hF.2 5 (by decide)
    have h02 : s1 0 2 = σ 0 2 := hF.2 2 (by decide)
    refine hX 400 31 _ _ ?_
    refine And.intro (fun c5 => ?_) (fun c5 => ?_)
    · refine And.intro rfl (And.intro rfl ?_)
      exact hQ _ _ hF
    · have lp_126 : ∀ (found2 : Int) (u6_8 : xV) (s2 : xS), (Fr [5, 6, 7] [] σ s2 ∧ s2 5 = s1 5 ∧ s2 6 = s1 6) → X 126 [xvr 0, xvi person, xvi kind, xvi r1, xvl found2, xvu, xvi full, xvi sx, u6_8] s2 := by
        intro found2 u6_8 s2 hv_126
        obtain ⟨hF, h5b, h6b⟩ := hv_126
        have h05b : s2 0 5 = σ 0 5 := hF.2 5 (by decide)
        refine hX 400 126 _ _ ?_
        refine sX4_nextState (σ := s2) (by rw [h05b]; exact hp0) (by rw [h05b, hF.1 4 (by decide) (by decide)]; exact hp1) (by rw [h05b, h5b, hF.1 4 (by decide) (by decide)]; exact hus) (fun r7 σ7 f7 p7 => ?_)
        rw [h05b, h5b, hF.1 4 (by decide) (by decide)] at p7
        have hF := hF.tr f7 (by decide) (by decide)
        have k6 : σ7 6 = s1 6 := (f7.1 6 (by decide) (by decide)).trans h6b
        have hsn := sm_nn (n := (σ 0 5).toNat) (g := σ7 5) (fun q hq => (p7.1 q (by omega)).1)
        have hs24 := sm24 (f := σ7 5) (n := (σ 0 5).toNat) (by omega) (fun q hq => by have a := p7.1 q (by omega); have b := hp1 q (by omega); omega)
        intro z8 t8 e8 l8 h8
        try have w8 : t8 = 0 := by omega
        refine And.intro (Nat.le_of_ble_eq_true rfl) ?_
        show xw _ _ _ _ _ _ _ _ _ _ [xvr 0, xvi person, xvi kind, xvi r1, xvl found2, xvu, xvi z8, xvi sx, u6_8] _ _
        intro z9 t9 e9 l9 h9
        try have w9 : t9 = 0 := by omega
        show xw _ _ _ _ _ _ _ _ _ _ [xvr 0, xvi person, xvi kind, xvi r1, xvl found2, xvu, xvi z8, xvi z9, u6_8] _ _
        exact ih_31 _ (show (15625 - z9).toNat < m31 from by omega) found2 z8 z9 (u6_8) σ7 rfl ⟨hF, (fun q hq => by rw [k6]; exact hst q hq), p7.1, by omega, by omega⟩
      intro v10 e10 l10 h10
      have e10 : v10 = s1 0 2 := e10
      refine And.intro (fun c11 => ?_) (fun c11 => ?_)
      · intro v12 e12 l12 h12
        have e12 : v12 = s1 0 2 := e12
        refine And.intro (fun c13 => ?_) (fun c13 => ?_)
        · exact lp_126 found (u4_8) s1 ⟨hF, rfl, rfl⟩
        · refine And.intro (rfl) (And.intro (⟨by omega, by omega⟩) ?_)
          intro v14 e14 l14 h14
          have e14 : v14 = s1 7 sx.toNat := e14
          intro z15 a15 b15 c15 l15 h15
          refine And.intro (fun c16 => ?_) (fun c16 => ?_)
          · exact lp_126 found (u4_8) s1 ⟨hF, rfl, rfl⟩
          · refine And.intro (rfl) (And.intro (⟨by omega, by omega⟩) ?_)
            intro v17 e17 l17 h17
            have e17 : v17 = s1 1 full.toNat := e17
            refine And.intro (fun c18 => ?_) (fun c18 => ?_)
            · refine And.intro (Nat.le_of_ble_eq_true rfl) ?_
              show xw _ _ _ _ _ _ _ _ _ _ [xvr 0, xvi person, xvi kind, xvi r1, xvl found, xvu, xvi full, xvi sx, xvi 0] _ _
              refine And.intro (rfl) (And.intro (⟨by omega, by omega⟩) ?_)
              intro v19 e19 l19 h19
              have e19 : v19 = s1 2 full.toNat := e19
              refine And.intro (fun _ => ?_) (fun c20 => absurd (by decide) c20)
              intro z21 e21 l21 h21
              refine sX4_spread (σ := s1) (s := sx) (barred := z21) (by omega) (by omega) (fun q hq => hst q (by omega)) (fun σ22 f22 => ?_)
              have hF := hF.tr f22 (by decide) (by decide)
              have x126 : Fr [5, 6, 7] [] σ σ22 ∧ σ22 5 = s1 5 ∧ σ22 6 = s1 6 := ⟨hF, f22.1 5 (by decide) (by decide), f22.1 6 (by decide) (by decide)⟩
              exact lp_126 found (xvi 0) σ22 x126
            · refine And.intro (Nat.le_of_ble_eq_true rfl) ?_
              show xw _ _ _ _ _ _ _ _ _ _ [xvr 0, xvi person, xvi kind, xvi r1, xvl found, xvu, xvi full, xvi sx, xvi 1] _ _
              refine And.intro (rfl) (And.intro (⟨by omega, by omega⟩) ?_)
              intro v23 e23 l23 h23
              have e23 : v23 = s1 2 full.toNat := e23
              refine And.intro (fun c24 => absurd c24 (by decide)) (fun _ => ?_)
              intro z25 e25 l25 h25
              intro z26 e26 l26 h26
              refine sX4_spread (σ := s1) (s := sx) (barred := z26) (by omega) (by omega) (fun q hq => hst q (by omega)) (fun σ27 f27 => ?_)
              have hF := hF.tr f27 (by decide) (by decide)
              have x126 : Fr [5, 6, 7] [] σ σ27 ∧ σ27 5 = s1 5 ∧ σ27 6 = s1 6 := ⟨hF, f27.1 5 (by decide) (by decide), f27.1 6 (by decide) (by decide)⟩
              exact lp_126 found (xvi 1) σ27 x126
      · refine And.intro (rfl) (And.intro (⟨by omega, by omega⟩) ?_)
        intro v28 e28 l28 h28
        have e28 : v28 = s1 7 sx.toNat := e28
        intro z29 t29 e29 l29 h29
        try have w29 : t29 = 0 := by omega
        refine And.intro (Nat.le_of_ble_eq_true rfl) ?_
        show xw _ _ _ _ _ _ _ _ _ _ [xvr 0, xvi person, xvi kind, xvi r1, xvl z29, xvu, xvi full, xvi sx, u4_8] _ _
        exact lp_126 z29 (u4_8) s1 ⟨hF, rfl, rfl⟩
  exact lp_31 _ 0 0 0 (xvu) (xput (xfl2 σ1 7 0 r1 0) 7 0 1) rfl ⟨hF, (fun q hq => by show 1 ≤ (xfl2 σ1 7 0 r1 0) 6 q ∧ (xfl2 σ1 7 0 r1 0) 6 q ≤ 15625; rw [k6]; have z := p1.2.2 q (by omega); have y := f5_6 (n := q) (by omega); omega), (fun q hq => by show 0 ≤ (xfl2 σ1 7 0 r1 0) 5 q ∧ (xfl2 σ1 7 0 r1 0) 5 q ≤ σ 4 q; rw [k5, p1.2.1 q hq]; have := hp1 q hq; omega), (by show sm _ ((xfl2 σ1 7 0 r1 0) 5) = 0; rw [k5]; exact sm_z (fun q hq => p1.2.1 q (by omega))), by omega⟩
