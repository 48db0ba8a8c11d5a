/-- the reference's row while the heap's line is read -/
def REW (b : Nat → Int) (n m p : Int) (g0 g : Nat → Int) (k : Nat) : Prop := (∀ i : Nat, i < 13 → g (571 + i) = hpl b n m p (fun i => g0 (571 + i)) k i) ∧ g 7 = g0 7 + (k : Nat) ∧ (∀ i : Nat, i < 52 → g (8 + i) = hhp b n m p (fun i => g0 (8 + i)) (g0 7) k i) ∧ ∀ i : Nat, i ≠ 7 → ¬ (8 ≤ i ∧ i < 60) → ¬ (571 ≤ i ∧ i < 584) → g i = g0 i
theorem REW.eq {b : Nat → Int} {n m p : Int} {g0 g g' : Nat → Int} {k : Nat} (h : REW b n m p g0 g k) (e : g' = g) : REW b n m p g0 g' k := e ▸ h
theorem REW.z {b g : Nat → Int} {n m p : Int} : REW b n m p g g 0 := ⟨fun _ _ => rfl, by omega, fun _ _ => rfl, fun _ _ _ _ => rfl⟩
theorem REW.s {b g0 g : Nat → Int} {n m p kd : Int} {k : Nat} (h : REW b n m p g0 g k) (hk : 0 ≤ kd ∧ kd ≤ 12) (h7 : 0 ≤ g0 7) (h51 : g 7 ≤ 51) (e : kd = tkv b n m (hps b n m p k)) : REW b n m p g0 (up (up (up g (571 + kd).toNat (g (571 + kd).toNat + 1)) (8 + g 7).toNat kd) 7 (g 7 + 1)) (k + 1) := by
  obtain ⟨h1, hz2, hz3, h4⟩ := h
  have e1 : (571 + kd).toNat = 571 + kd.toNat := by omega
  have e2 : (8 + g 7).toNat = 8 + (g 7).toNat := by omega
  rw [e1, e2]
  refine ⟨fun i hi => ?_, ?_, fun i hi => ?_, fun i a b' c => ?_⟩
  · rw [up_n (show 571 + i ≠ 7 from by omega), up_n (show 571 + i ≠ 8 + (g 7).toNat from by omega)]
    show _ = up (hpl b n m p (fun i => g0 (571 + i)) k) (tkv b n m (hps b n m p k)).toNat (hpl b n m p (fun i => g0 (571 + i)) k (tkv b n m (hps b n m p k)).toNat + 1) i
    rw [← e]
    by_cases c : i = kd.toNat
    · subst c; rw [up_s, up_s, h1 _ hi]
    · rw [up_n (show 571 + i ≠ 571 + kd.toNat from by omega), up_n c]; exact h1 i hi
  · rw [up_s, hz2]; omega
  · rw [up_n (show 8 + i ≠ 7 from by omega)]
    show _ = up (hhp b n m p (fun i => g0 (8 + i)) (g0 7) k) (g0 7 + k).toNat (tkv b n m (hps b n m p k)) i
    rw [← e, show (g0 7 + (k : Int)).toNat = (g 7).toNat from by omega]
    by_cases c : i = (g 7).toNat
    · subst c; rw [up_s, up_s]
    · rw [up_n (show 8 + i ≠ 8 + (g 7).toNat from by omega), up_n (show 8 + i ≠ 571 + kd.toNat from by omega), up_n c]; exact hz3 i hi
  · rw [up_n a, up_n (by omega), up_n (by omega)]; exact h4 i a b' c
set_option maxHeartbeats 4000000 in
set_option maxRecDepth 100000 in
theorem s_readHeapF {b : Nat → Int} {n m p : Int} {σ : xS} {Q : Option xV → xS → Prop} (hp0 : 0 ≤ σ 0 4 ∧ σ 0 4 ≤ n ∧ n ≤ 940) (hp1 : TH (σ 3) (σ 0 20)) (hp2 : BYx b n) (hp3 : σ 1 = b ∧ σ 0 3 = n ∧ σ 0 5 = m) (hp4 : RRs σ b n m p) (hp5 : ∀ j : Nat, j < 19 → σ 6 j = R8.getD j 0) (hQ : ∀ r : Int, ∀ σ' : xS, Fr [3] [4, 11, 12, 13, 14, 15, 16, 17] σ σ' → (∃ k : Nat, HGD b n m p (σ 3 0) (fun i => σ 3 (571 + i)) k ∧ ((¬ tkc b n m (hps b n m p k) = 301 ∧ (k = 0 ∨ ¬ tkc b n m (hps b n m p k) = 59) ∧ r = 0 ∧ σ' 0 15 = 1 ∧ σ' 0 16 = tka b n m (hps b n m p k)) ∨ (tkc b n m (hps b n m p k) = 301 ∧ ¬ (tkv b n m (hps b n m p k)) < σ 3 0 ∧ r = 0 ∧ σ' 0 15 = 2 ∧ σ' 0 16 = tka b n m (hps b n m p k)) ∨ (tkc b n m (hps b n m p k) = 301 ∧ (tkv b n m (hps b n m p k)) < σ 3 0 ∧ hpl b n m p (fun i => σ 3 (571 + i)) k (tkv b n m (hps b n m p k)).toNat = 4 ∧ r = 0 ∧ σ' 0 15 = 5 ∧ σ' 0 16 = tka b n m (hps b n m p k)) ∨ (0 < k ∧ tkc b n m (hps b n m p k) = 59 ∧ r = 1)) ∧ (r = 1 → RRs σ' b n m (hps b n m p k) ∧ REW b n m p (σ 3) (σ' 3) k ∧ σ' 5 = σ 5 ∧ TH (σ' 3) (σ' 0 20))) → Q (some (xvi r)) σ') : xT kX11_readHeap [xvr 0] σ Q := by
  refine ⟨Nat.le_of_ble_eq_true rfl, fun X hX => ?_⟩
  show X 0 [xvr 0, xvu] σ
  have hF : Fr [3] [4, 11, 12, 13, 14, 15, 16, 17] σ σ := Fr.rf
  refine hX 400 0 _ _ ?_
  have hT := hp1
  have hmm := hT.hd0
  have hy := hp2
  obtain ⟨hb, hs, hm⟩ := id hp3
  have hR := hp4
  have hrw := hp5
  have hp4 : 0 ≤ σ 0 4 ∧ σ 0 4 ≤ n := by omega
  have hn9 : n ≤ 940 := hp0.2.2
  have hz3 : σ 3 = σ 3 := rfl
  have hz5 : σ 5 = σ 5 := rfl
  have hW : REW b n m p (σ 3) (σ 3) 0 := REW.z
  refine s_nxG (σ := σ) (b := b) (n := n) (m := m) (p := (tkp b n m p)) (show 0 ≤ σ 0 4 ∧ σ 0 4 ≤ n ∧ n ≤ 940 from by omega) hy (show σ 1 = b from hb) (show σ 0 3 = n from by omega) (show σ 0 5 = m from by omega) (show σ 0 4 = (tkp b n m p) from by have z := hR.2.2.2.2.2.2; omega) (fun σ1 f1 p1 => ?_)
  replace hR : RRs σ1 b n m (tkp b n m p) := p1.2
  replace hp4 : 0 ≤ σ1 0 4 ∧ σ1 0 4 ≤ n := p1.1
  replace hb : σ1 1 = b := (f1.1 1 (by decide) (by decide)).trans hb
  replace hs : σ1 0 3 = n := (f1.2 3 (by decide)).trans (show σ 0 3 = n from by omega)
  replace hm : σ1 0 5 = m := (f1.2 5 (by decide)).trans (show σ 0 5 = m from by omega)
  replace hrw : ∀ j : Nat, j < 19 → σ1 6 j = R8.getD j 0 := by
    rw [show σ1 6 = σ 6 from f1.1 6 (by decide) (by decide)]; exact hrw
  have hF := hF.tr f1 (by decide) (by decide)
  replace hz5 := (f1.1 5 (by decide) (by decide)).trans hz5
  replace hT : TH (σ1 3) (σ1 0 20) := by rw [f1.1 3 (by decide) (by decide), show σ1 0 20 = _ from f1.2 20 (by decide)]; exact hT
  replace hW := hW.eq (f1.1 3 (by decide) (by decide))
  refine And.intro (Nat.le_of_ble_eq_true rfl) ?_
  show xw _ _ _ _ _ _ _ _ _ _ [xvr 0, xvi 1] _ _
  have lp_6 : ∀ (m6 : Nat) (more : Int) (s1 : xS), ((2 * (60 - s1 3 7) + more).toNat) = m6 → (Fr [3] [4, 11, 12, 13, 14, 15, 16, 17] σ s1 ∧ TH (s1 3) (s1 0 20) ∧ (s1 1 = b ∧ s1 0 3 = n ∧ s1 0 5 = m ∧ (0 ≤ s1 0 4 ∧ s1 0 4 ≤ n) ∧ (∀ j : Nat, j < 19 → s1 6 j = R8.getD j 0) ∧ s1 5 = σ 5) ∧ (more = 0 ∨ more = 1) ∧ ∃ k : Nat, HGD b n m p (σ 3 0) (fun i => σ 3 (571 + i)) k ∧ RRs s1 b n m (hps b n m p k) ∧ REW b n m p (σ 3) (s1 3) k ∧ (more = 0 → 0 < k ∧ tkc b n m (hps b n m p k) = 59) ∧ (more = 1 → k = 0 ∨ ¬ tkc b n m (hps b n m p k) = 59)) → X 6 [xvr 0, xvi more] s1 := by
    intro m6
    induction m6 using Nat.strongRecOn with
    | _ m6 ih_6 =>
    intro more s1 hm_6 hv_6
    obtain ⟨hF, hT, ⟨hb, hs, hm, hp4, hrw, hz5⟩, hmo, k, hGD, hR, hW, hq0, hq1⟩ := hv_6
    have hmm := hT.hd0
    have h7 : s1 3 7 = σ 3 7 + (k : Nat) := hW.2.1
    have h70 : 0 ≤ σ 3 7 := hp1.hd0.2.2.1
    have h30 : s1 3 0 = σ 3 0 := hW.2.2.2 0 (by decide) (by omega) (by omega)
    have hv := hR.2.2.2.1
    have htr := hR.tr
    refine hX 400 6 _ _ ?_
    -- the loop
    refine And.intro (fun c3 => ?_) (fun c3 => ?_)
    · refine And.intro rfl ?_
      refine And.intro (by omega) ?_
      exact hQ _ _ hF ⟨k, hGD, (show (¬ tkc b n m (hps b n m p k) = 301 ∧ (k = 0 ∨ ¬ tkc b n m (hps b n m p k) = 59) ∧ 1 = 0 ∧ (s1 0 15) = 1 ∧ (s1 0 16) = tka b n m (hps b n m p k)) ∨ (tkc b n m (hps b n m p k) = 301 ∧ ¬ (tkv b n m (hps b n m p k)) < σ 3 0 ∧ 1 = 0 ∧ (s1 0 15) = 2 ∧ (s1 0 16) = tka b n m (hps b n m p k)) ∨ (tkc b n m (hps b n m p k) = 301 ∧ (tkv b n m (hps b n m p k)) < σ 3 0 ∧ hpl b n m p (fun i => σ 3 (571 + i)) k (tkv b n m (hps b n m p k)).toNat = 4 ∧ 1 = 0 ∧ (s1 0 15) = 5 ∧ (s1 0 16) = tka b n m (hps b n m p k)) ∨ (0 < k ∧ tkc b n m (hps b n m p k) = 59 ∧ 1 = 1) from by (refine (Or.inr (Or.inr (Or.inr ?_))); and_intros <;> omega)), fun _ => ⟨hR, hW, hz5, hT⟩⟩
    · intro v4 e4 l4 h4
      have e4 : v4 = s1 0 11 := e4
      refine And.intro (fun c5 => ?_) (fun c5 => ?_)
      · intro v6 e6 l6 h6
        have e6 : v6 = s1 0 14 := e6
        refine And.intro (rfl) (And.intro (⟨by omega, by omega⟩) ?_)
        intro v7 e7 l7 h7
        have e7 : v7 = s1 3 0 := e7
        refine And.intro (fun c8 => ?_) (fun c8 => ?_)
        · intro v9 e9 l9 h9
          have e9 : v9 = s1 0 14 := e9
          intro z10 t10 e10 l10 h10
          try have w10 : t10 = 0 := by omega
          refine And.intro (rfl) (And.intro (⟨by omega, by omega⟩) ?_)
          intro v11 e11 l11 h11
          have e11 : v11 = s1 3 z10.toNat := e11
          have jxv11 : z10.toNat = 571 + ((tkv b n m (hps b n m p k))).toNat := by omega
          rw [jxv11] at e11
          have jv11 : v11 = hpl b n m p (fun i => σ 3 (571 + i)) k ((tkv b n m (hps b n m p k))).toNat := e11.trans (hW.1 ((tkv b n m (hps b n m p k))).toNat (by omega))
          refine And.intro (fun c12 => ?_) (fun c12 => ?_)
          · have hne : ¬ hpl b n m p (fun i => σ 3 (571 + i)) k (tkv b n m (hps b n m p k)).toNat = 4 := by omega
            have h4x : ¬ s1 3 (571 + (tkv b n m (hps b n m p k))).toNat = 4 := by rw [show (571 + (tkv b n m (hps b n m p k))).toNat = 571 + (tkv b n m (hps b n m p k)).toNat from by omega, hW.1 (tkv b n m (hps b n m p k)).toNat (by omega)]; exact hne
            have h51 := hT.h51 (kd := (tkv b n m (hps b n m p k))) (by omega) h4x
            have m1 : 0 ≤ s1 3 (571 + (tkv b n m (hps b n m p k))).toNat ∧ s1 3 (571 + (tkv b n m (hps b n m p k))).toNat ≤ 4 := hT.pl (kd := (tkv b n m (hps b n m p k))) (by omega)
            intro v13 e13 l13 h13
            have e13 : v13 = s1 0 14 := e13
            intro z14 t14 e14 l14 h14
            try have w14 : t14 = 0 := by omega
            refine And.intro (rfl) (And.intro (⟨by omega, by omega⟩) ?_)
            intro v15 e15 l15 h15
            have e15 : v15 = s1 3 z14.toNat := e15
            rw [show z14.toNat = (571 + (tkv b n m (hps b n m p k))).toNat from by omega] at e15
            intro z16 t16 e16 l16 h16
            try have w16 : t16 = 0 := by omega
            refine And.intro (rfl) (And.intro (⟨by omega, by omega⟩) ?_)
            have hF := hF.pt (t := 3) (j := z14.toNat) (v := z16) (by decide) (by decide)
            refine And.intro (rfl) (And.intro (⟨by omega, by omega⟩) ?_)
            intro v18 e18 l18 h18
            have e18 : v18 = (xput s1 3 z14.toNat z16) 3 7 := e18
            rw [xput_o (by omega)] at e18
            intro z19 t19 e19 l19 h19
            try have w19 : t19 = 0 := by omega
            intro v20 e20 l20 h20
            have e20 : v20 = s1 0 14 := e20
            refine And.intro (rfl) (And.intro (⟨by omega, by omega⟩) ?_)
            have hF := hF.pt (t := 3) (j := z19.toNat) (v := v20) (by decide) (by decide)
            refine And.intro (rfl) (And.intro (⟨by omega, by omega⟩) ?_)
            intro v22 e22 l22 h22
            have e22 : v22 = (xput (xput s1 3 z14.toNat z16) 3 z19.toNat v20) 3 7 := e22
            rw [xput_o (by omega), xput_o (by omega)] at e22
            intro z23 t23 e23 l23 h23
            try have w23 : t23 = 0 := by omega
            refine And.intro (rfl) (And.intro (⟨by omega, by omega⟩) ?_)
            have hF := hF.pt (t := 3) (j := 7) (v := z23) (by decide) (by decide)
            have hE : (xput (xput (xput s1 3 z14.toNat z16) 3 z19.toNat v20) 3 7 z23) 3 = up (up (up (s1 3) (571 + (tkv b n m (hps b n m p k))).toNat (s1 3 (571 + (tkv b n m (hps b n m p k))).toNat + 1)) (8 + s1 3 7).toNat (tkv b n m (hps b n m p k))) 7 (s1 3 7 + 1) := by
              show xput (xput (xput _ 3 _ _) 3 _ _) 3 _ _ 3 = _
              rw [xput_up, xput_up, xput_up, show z14.toNat = (571 + (tkv b n m (hps b n m p k))).toNat from by omega, show z16 = s1 3 (571 + (tkv b n m (hps b n m p k))).toNat + 1 from by omega, show z19.toNat = (8 + s1 3 7).toNat from by omega, show v20 = (tkv b n m (hps b n m p k)) from by omega, show z23 = s1 3 7 + 1 from by omega]
            replace hT : TH ((xput (xput (xput s1 3 z14.toNat z16) 3 z19.toNat v20) 3 7 z23) 3) ((xput (xput (xput s1 3 z14.toNat z16) 3 z19.toNat v20) 3 7 z23) 0 20) := by rw [hE]; exact hT.heap (by omega) h4x rfl rfl
            replace hW : REW b n m p (σ 3) ((xput (xput (xput s1 3 z14.toNat z16) 3 z19.toNat v20) 3 7 z23) 3) (k + 1) := by rw [hE]; exact hW.s (by omega) h70 (by omega) rfl
            refine s_nxG (σ := (xput (xput (xput s1 3 z14.toNat z16) 3 z19.toNat v20) 3 7 z23)) (b := b) (n := n) (m := m) (p := (tkp b n m (hps b n m p k))) (show 0 ≤ s1 0 4 ∧ s1 0 4 ≤ n ∧ n ≤ 940 from by omega) hy (show s1 1 = b from hb) (show s1 0 3 = n from by omega) (show s1 0 5 = m from by omega) (show s1 0 4 = (tkp b n m (hps b n m p k)) from by have z := hR.2.2.2.2.2.2; omega) (fun σ25 f25 p25 => ?_)
            replace hR : RRs σ25 b n m (tkp b n m (hps b n m p k)) := p25.2
            replace hp4 : 0 ≤ σ25 0 4 ∧ σ25 0 4 ≤ n := p25.1
            replace hb : σ25 1 = b := (f25.1 1 (by decide) (by decide)).trans hb
            replace hs : σ25 0 3 = n := (f25.2 3 (by decide)).trans (show s1 0 3 = n from by omega)
            replace hm : σ25 0 5 = m := (f25.2 5 (by decide)).trans (show s1 0 5 = m from by omega)
            replace hrw : ∀ j : Nat, j < 19 → σ25 6 j = R8.getD j 0 := by
              rw [show σ25 6 = s1 6 from f25.1 6 (by decide) (by decide)]; exact hrw
            have hF := hF.tr f25 (by decide) (by decide)
            replace hz5 := (f25.1 5 (by decide) (by decide)).trans hz5
            replace hT : TH (σ25 3) (σ25 0 20) := by rw [f25.1 3 (by decide) (by decide), show σ25 0 20 = _ from f25.2 20 (by decide)]; exact hT
            replace hW := hW.eq (f25.1 3 (by decide) (by decide))
            refine s_isSignT (σ := σ25) hR (by omega) (fun r26 p26 => ?_)
            replace p26 : (r26 = 1 ∧ tkc b n m (tkp b n m (hps b n m p k)) = 59) ∨ (r26 = 0 ∧ ¬ tkc b n m (tkp b n m (hps b n m p k)) = 59) := p26
            refine And.intro (fun c27 => ?_) (fun c27 => ?_)
            · replace p26 : tkc b n m (tkp b n m (hps b n m p k)) = 59 := by
                rcases p26 with q | q
                · exact q.2
                · exact absurd q.1 (by omega)
              refine And.intro (Nat.le_of_ble_eq_true rfl) ?_
              show xw _ _ _ _ _ _ _ _ _ _ [xvr 0, xvi 0] _ _
              exact ih_6 _ (show (2 * (60 - (σ25 3 7)) + 0).toNat < m6 from by have z := hW.2.1; omega) 0 σ25 rfl ⟨hF, hT, ⟨hb, hs, hm, hp4, hrw, hz5⟩, by omega, k + 1, hGD.s ⟨by omega, by omega, hne⟩, hR, hW, (fun _ => ⟨by omega, (show tkc b n m (tkp b n m (hps b n m p k)) = 59 from by omega)⟩), (fun z => absurd z (by decide))⟩
            · replace p26 : ¬ tkc b n m (tkp b n m (hps b n m p k)) = 59 := by
                rcases p26 with q | q
                · exact absurd q.1 (by omega)
                · exact q.2
              refine And.intro (Nat.le_of_ble_eq_true rfl) ?_
              show xw _ _ _ _ _ _ _ _ _ _ [xvr 0, xvi 1] _ _
              exact ih_6 _ (show (2 * (60 - (σ25 3 7)) + 1).toNat < m6 from by have z := hW.2.1; omega) 1 σ25 rfl ⟨hF, hT, ⟨hb, hs, hm, hp4, hrw, hz5⟩, by omega, k + 1, hGD.s ⟨by omega, by omega, hne⟩, hR, hW, (fun z => absurd z (by decide)), (fun _ => Or.inr (show ¬ tkc b n m (tkp b n m (hps b n m p k)) = 59 from by omega))⟩
          · have hfour : hpl b n m p (fun i => σ 3 (571 + i)) k (tkv b n m (hps b n m p k)).toNat = 4 := by omega
            refine s_badE (σ := s1) (kind := 5) (fun r28 σ28 f28 p28 => ?_)
            replace p28 : r28 = 0 ∧ σ28 0 15 = 5 ∧ σ28 0 16 = tka b n m (hps b n m p k) := ⟨p28.1, p28.2.1, p28.2.2.trans hR.2.2.2.2.2.1⟩
            have hF := hF.tr f28 (by decide) (by decide)
            refine And.intro rfl ?_
            refine And.intro (by omega) ?_
            exact hQ _ _ hF ⟨k, hGD, (show (¬ tkc b n m (hps b n m p k) = 301 ∧ (k = 0 ∨ ¬ tkc b n m (hps b n m p k) = 59) ∧ r28 = 0 ∧ (σ28 0 15) = 1 ∧ (σ28 0 16) = tka b n m (hps b n m p k)) ∨ (tkc b n m (hps b n m p k) = 301 ∧ ¬ (tkv b n m (hps b n m p k)) < σ 3 0 ∧ r28 = 0 ∧ (σ28 0 15) = 2 ∧ (σ28 0 16) = tka b n m (hps b n m p k)) ∨ (tkc b n m (hps b n m p k) = 301 ∧ (tkv b n m (hps b n m p k)) < σ 3 0 ∧ hpl b n m p (fun i => σ 3 (571 + i)) k (tkv b n m (hps b n m p k)).toNat = 4 ∧ r28 = 0 ∧ (σ28 0 15) = 5 ∧ (σ28 0 16) = tka b n m (hps b n m p k)) ∨ (0 < k ∧ tkc b n m (hps b n m p k) = 59 ∧ r28 = 1) from by (refine (Or.inr (Or.inr (Or.inl ?_))); and_intros <;> omega)), fun hr => absurd hr (by omega)⟩
        · refine s_badE (σ := s1) (kind := 2) (fun r29 σ29 f29 p29 => ?_)
          replace p29 : r29 = 0 ∧ σ29 0 15 = 2 ∧ σ29 0 16 = tka b n m (hps b n m p k) := ⟨p29.1, p29.2.1, p29.2.2.trans hR.2.2.2.2.2.1⟩
          have hF := hF.tr f29 (by decide) (by decide)
          refine And.intro rfl ?_
          refine And.intro (by omega) ?_
          exact hQ _ _ hF ⟨k, hGD, (show (¬ tkc b n m (hps b n m p k) = 301 ∧ (k = 0 ∨ ¬ tkc b n m (hps b n m p k) = 59) ∧ r29 = 0 ∧ (σ29 0 15) = 1 ∧ (σ29 0 16) = tka b n m (hps b n m p k)) ∨ (tkc b n m (hps b n m p k) = 301 ∧ ¬ (tkv b n m (hps b n m p k)) < σ 3 0 ∧ r29 = 0 ∧ (σ29 0 15) = 2 ∧ (σ29 0 16) = tka b n m (hps b n m p k)) ∨ (tkc b n m (hps b n m p k) = 301 ∧ (tkv b n m (hps b n m p k)) < σ 3 0 ∧ hpl b n m p (fun i => σ 3 (571 + i)) k (tkv b n m (hps b n m p k)).toNat = 4 ∧ r29 = 0 ∧ (σ29 0 15) = 5 ∧ (σ29 0 16) = tka b n m (hps b n m p k)) ∨ (0 < k ∧ tkc b n m (hps b n m p k) = 59 ∧ r29 = 1) from by (refine (Or.inr (Or.inl ?_)); and_intros <;> omega)), fun hr => absurd hr (by omega)⟩
      · refine s_badE (σ := s1) (kind := 1) (fun r30 σ30 f30 p30 => ?_)
        replace p30 : r30 = 0 ∧ σ30 0 15 = 1 ∧ σ30 0 16 = tka b n m (hps b n m p k) := ⟨p30.1, p30.2.1, p30.2.2.trans hR.2.2.2.2.2.1⟩
        have hF := hF.tr f30 (by decide) (by decide)
        refine And.intro rfl ?_
        refine And.intro (by omega) ?_
        exact hQ _ _ hF ⟨k, hGD, (show (¬ tkc b n m (hps b n m p k) = 301 ∧ (k = 0 ∨ ¬ tkc b n m (hps b n m p k) = 59) ∧ r30 = 0 ∧ (σ30 0 15) = 1 ∧ (σ30 0 16) = tka b n m (hps b n m p k)) ∨ (tkc b n m (hps b n m p k) = 301 ∧ ¬ (tkv b n m (hps b n m p k)) < σ 3 0 ∧ r30 = 0 ∧ (σ30 0 15) = 2 ∧ (σ30 0 16) = tka b n m (hps b n m p k)) ∨ (tkc b n m (hps b n m p k) = 301 ∧ (tkv b n m (hps b n m p k)) < σ 3 0 ∧ hpl b n m p (fun i => σ 3 (571 + i)) k (tkv b n m (hps b n m p k)).toNat = 4 ∧ r30 = 0 ∧ (σ30 0 15) = 5 ∧ (σ30 0 16) = tka b n m (hps b n m p k)) ∨ (0 < k ∧ tkc b n m (hps b n m p k) = 59 ∧ r30 = 1) from by (refine (Or.inl ?_); and_intros <;> omega)), fun hr => absurd hr (by omega)⟩
  exact lp_6 _ 1 σ1 rfl ⟨hF, hT, ⟨hb, hs, hm, hp4, hrw, hz5⟩, by omega, 0, HGD.z, hR, hW, (fun z => absurd z (by decide)), (fun _ => Or.inl rfl)⟩
