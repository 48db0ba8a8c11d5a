set_option maxHeartbeats 4000000 in
set_option maxRecDepth 100000 in
theorem s_line_1 {b : Nat → Int} {n m p : Int} {σ : xS} {Q : Option xV → xS → Prop} (hp0 : 0 ≤ σ 0 4 ∧ σ 0 4 ≤ n ∧ n ≤ 940) (hp1 : TH (σ 3) (σ 0 20)) (hp2 : BYx b n) (hp3 : σ 1 = b ∧ σ 0 3 = n ∧ σ 0 5 = m) (hp4 : RRs σ b n m p) (hp5 : ∀ j : Nat, j < 19 → σ 6 j = R8.getD j 0) (hp6 : tkc b n m p = 1) (hp7 : (σ 0 20 = 0 ∨ σ 0 20 = 1) ∧ (σ 0 21 = 0 ∨ σ 0 21 = 1) ∧ (σ 0 22 = 0 ∨ σ 0 22 = 1)) (hQ : ∀ r : Int, ∀ σ' : xS, Fr [3, 5] [4, 11, 12, 13, 14, 15, 16, 17, 18, 20, 21, 22] σ σ' → (((σ 3 1 = 6 ∧ r = 0 ∧ σ' 0 15 = 4 ∧ σ' 0 16 = tka b n m p) ∨ (¬ σ 3 1 = 6 ∧ ¬ tkc b n m (tkp b n m p) = 300 ∧ r = 0 ∧ σ' 0 15 = 1 ∧ σ' 0 16 = tka b n m (tkp b n m p)) ∨ (¬ σ 3 1 = 6 ∧ tkc b n m (tkp b n m p) = 300 ∧ ¬ fnd (fun q => σ 5 (6 + q)) (σ 3 1).toNat (tkw b n m (tkp b n m p)) = -1 ∧ r = 0 ∧ σ' 0 15 = 3 ∧ σ' 0 16 = tka b n m (tkp b n m p)) ∨ (¬ σ 3 1 = 6 ∧ tkc b n m (tkp b n m p) = 300 ∧ fnd (fun q => σ 5 (6 + q)) (σ 3 1).toNat (tkw b n m (tkp b n m p)) = -1 ∧ r = 1)) ∧ (r = 1 → RRs σ' b n m (tkp b n m (tkp b n m p)) ∧ σ' 3 = up (σ 3) 1 (σ 3 1 + 1) ∧ σ' 5 = up (σ 5) (6 + σ 3 1).toNat (tkw b n m (tkp b n m p)) ∧ σ' 0 20 = σ 0 20 ∧ σ' 0 21 = σ 0 21 ∧ σ' 0 22 = σ 0 22)) → Q (some (xvi r)) σ') : xT kX11_line [xvr 0] σ Q := by
  refine ⟨Nat.le_of_ble_eq_true rfl, fun X hX => ?_⟩
  show X 0 [xvr 0] σ
  have hF : Fr [3, 5] [4, 11, 12, 13, 14, 15, 16, 17, 18, 20, 21, 22] σ σ := Fr.rf
  refine hX 400 0 _ _ ?_
  have hT := hp1
  have hmm := hT.hd0
  have hy := hp2
  obtain ⟨hb, hs, hm⟩ := id hp3
  have hR := hp4
  have hrw := hp5
  have hp4 : 0 ≤ σ 0 4 ∧ σ 0 4 ≤ n := by omega
  have hn9 : n ≤ 940 := hp0.2.2
  have hz3 : σ 3 = σ 3 := rfl
  have hz5 : σ 5 = σ 5 := rfl
  have hj := hp6
  have hfl := hp7
  refine s_isWordT (σ := σ) (j := 0) hR (by decide) (by decide +kernel) (fun r1 p1 => ?_)
  replace p1 : (r1 = 1 ∧ tkc b n m p = 0) ∨ (r1 = 0 ∧ ¬ tkc b n m p = 0) := p1
  refine And.intro (fun c2 => ?_) (fun c2 => ?_)
  · replace p1 : ¬ tkc b n m p = 0 := by
      rcases p1 with q | q
      · exact absurd q.1 (by omega)
      · exact q.2
    refine s_isWordT (σ := σ) (j := 1) hR (by decide) (by decide +kernel) (fun r3 p3 => ?_)
    replace p3 : (r3 = 1 ∧ tkc b n m p = 1) ∨ (r3 = 0 ∧ ¬ tkc b n m p = 1) := p3
    refine And.intro (fun c4 => ?_) (fun c4 => ?_)
    · replace p3 : ¬ tkc b n m p = 1 := by
        rcases p3 with q | q
        · exact absurd q.1 (by omega)
        · exact q.2
      exfalso; omega
    · replace p3 : tkc b n m p = 1 := by
        rcases p3 with q | q
        · exact q.2
        · exact absurd q.1 (by omega)
      refine And.intro (rfl) (And.intro (⟨by omega, by omega⟩) ?_)
      intro v5 e5 l5 h5
      have e5 : v5 = σ 3 1 := e5
      have jv5 : v5 = σ 3 1 := by have z := congrFun hz3 1; omega
      refine And.intro (fun c6 => ?_) (fun c6 => ?_)
      · refine s_nxG (σ := σ) (b := b) (n := n) (m := m) (p := (tkp b n m p)) (show 0 ≤ σ 0 4 ∧ σ 0 4 ≤ n ∧ n ≤ 940 from by omega) hy (show σ 1 = b from hb) (show σ 0 3 = n from by omega) (show σ 0 5 = m from by omega) (show σ 0 4 = (tkp b n m p) from by have z := hR.2.2.2.2.2.2; omega) (fun σ7 f7 p7 => ?_)
        replace hR : RRs σ7 b n m (tkp b n m p) := p7.2
        replace hp4 : 0 ≤ σ7 0 4 ∧ σ7 0 4 ≤ n := p7.1
        replace hb : σ7 1 = b := (f7.1 1 (by decide) (by decide)).trans hb
        replace hs : σ7 0 3 = n := (f7.2 3 (by decide)).trans (show σ 0 3 = n from by omega)
        replace hm : σ7 0 5 = m := (f7.2 5 (by decide)).trans (show σ 0 5 = m from by omega)
        replace hrw : ∀ j : Nat, j < 19 → σ7 6 j = R8.getD j 0 := by
          rw [show σ7 6 = σ 6 from f7.1 6 (by decide) (by decide)]; exact hrw
        have hF := hF.tr f7 (by decide) (by decide)
        replace hz3 := (f7.1 3 (by decide) (by decide)).trans hz3
        replace hz5 := (f7.1 5 (by decide) (by decide)).trans hz5
        have z20_7 : σ7 0 20 = σ 0 20 := f7.2 20 (by decide)
        have z21_7 : σ7 0 21 = σ 0 21 := f7.2 21 (by decide)
        have z22_7 : σ7 0 22 = σ 0 22 := f7.2 22 (by decide)
        refine s_isNameT (σ := σ7) hR hrw (fun r8 p8 => ?_)
        replace p8 : (r8 = 1 ∧ tkc b n m (tkp b n m p) = 300) ∨ (r8 = 0 ∧ ¬ tkc b n m (tkp b n m p) = 300) := p8
        refine And.intro (fun c9 => ?_) (fun c9 => ?_)
        · replace p8 : tkc b n m (tkp b n m p) = 300 := by
            rcases p8 with q | q
            · exact q.2
            · exact absurd q.1 (by omega)
          refine And.intro (rfl) (And.intro (⟨by omega, by omega⟩) ?_)
          intro v10 e10 l10 h10
          have e10 : v10 = σ7 3 1 := e10
          have jv10 : v10 = σ 3 1 := by have z := congrFun hz3 1; omega
          have hkc : tkc b n m (tkp b n m p) = 300 := by omega
          refine s_findR (σ := σ7) (from_ := 6) (many := v10) (by omega) (fun r11 p11 => ?_)
          replace p11 : r11 = fnd (fun q => σ 5 (6 + q)) (σ 3 1).toNat (tkw b n m (tkp b n m p)) := by
            rw [p11]
            have e1 : (fun q => σ7 5 ((6 : Int).toNat + q)) = (fun q => σ 5 (6 + q)) := by funext q; rw [show σ7 5 = σ 5 from hz5]; rfl
            rw [e1, show σ7 0 17 = tkw b n m (tkp b n m p) from hR.2.2.2.2.1 hkc, show v10 = σ 3 1 from by omega]
          have hfr := fnd_r (fun q => σ 5 (6 + q)) (tkw b n m (tkp b n m p)) (σ 3 1).toNat
          refine And.intro (fun c12 => ?_) (fun c12 => ?_)
          · refine And.intro (rfl) (And.intro (⟨by omega, by omega⟩) ?_)
            intro v13 e13 l13 h13
            have e13 : v13 = σ7 3 1 := e13
            have jv13 : v13 = σ 3 1 := by have z := congrFun hz3 1; omega
            intro z14 t14 e14 l14 h14
            try have w14 : t14 = 0 := by omega
            intro v15 e15 l15 h15
            have e15 : v15 = σ7 0 17 := e15
            refine And.intro rfl (And.intro (⟨by omega, by omega⟩) ?_)
            have hF := hF.pt (t := 5) (j := z14.toNat) (v := v15) (by decide) (by decide)
            replace hz5 : (xput σ7 5 z14.toNat v15) 5 = up (σ 5) (6 + σ 3 1).toNat (tkw b n m (tkp b n m p)) := by
              rw [xput_up, hz5, show z14.toNat = (6 + σ 3 1).toNat from by omega, show v15 = tkw b n m (tkp b n m p) from by have z := hR.2.2.2.2.1 hkc; omega]
            refine And.intro (rfl) (And.intro (⟨by omega, by omega⟩) ?_)
            intro v17 e17 l17 h17
            have e17 : v17 = σ7 3 1 := e17
            have jv17 : v17 = σ 3 1 := by have z := congrFun hz3 1; omega
            intro z18 t18 e18 l18 h18
            try have w18 : t18 = 0 := by omega
            refine And.intro (rfl) (And.intro (⟨by omega, by omega⟩) ?_)
            have hF := hF.pt (t := 3) (j := 1) (v := z18) (by decide) (by decide)
            replace hz3 : (xput (xput σ7 5 z14.toNat v15) 3 1 z18) 3 = up (σ 3) 1 (σ 3 1 + 1) := by
              rw [xput_up, show z18 = σ 3 1 + 1 from by omega]
              first | done | (rw [xput_ne (by decide)]; done) | (rw [hz3]; done) | (rw [xput_ne (by decide), hz3]; done)
            refine s_nxG (σ := (xput (xput σ7 5 z14.toNat v15) 3 1 z18)) (b := b) (n := n) (m := m) (p := (tkp b n m (tkp b n m p))) (show 0 ≤ σ7 0 4 ∧ σ7 0 4 ≤ n ∧ n ≤ 940 from by omega) hy (show σ7 1 = b from hb) (show σ7 0 3 = n from by omega) (show σ7 0 5 = m from by omega) (show σ7 0 4 = (tkp b n m (tkp b n m p)) from by have z := hR.2.2.2.2.2.2; omega) (fun σ20 f20 p20 => ?_)
            replace hR : RRs σ20 b n m (tkp b n m (tkp b n m p)) := p20.2
            replace hp4 : 0 ≤ σ20 0 4 ∧ σ20 0 4 ≤ n := p20.1
            replace hb : σ20 1 = b := (f20.1 1 (by decide) (by decide)).trans hb
            replace hs : σ20 0 3 = n := (f20.2 3 (by decide)).trans (show σ7 0 3 = n from by omega)
            replace hm : σ20 0 5 = m := (f20.2 5 (by decide)).trans (show σ7 0 5 = m from by omega)
            replace hrw : ∀ j : Nat, j < 19 → σ20 6 j = R8.getD j 0 := by
              rw [show σ20 6 = σ7 6 from f20.1 6 (by decide) (by decide)]; exact hrw
            have hF := hF.tr f20 (by decide) (by decide)
            replace hz3 := (f20.1 3 (by decide) (by decide)).trans hz3
            replace hz5 := (f20.1 5 (by decide) (by decide)).trans hz5
            have z20_20 : σ20 0 20 = σ7 0 20 := f20.2 20 (by decide)
            have z21_20 : σ20 0 21 = σ7 0 21 := f20.2 21 (by decide)
            have z22_20 : σ20 0 22 = σ7 0 22 := f20.2 22 (by decide)
            refine And.intro rfl ?_
            refine And.intro (by omega) ?_
            exact hQ _ _ hF ⟨(show (σ 3 1 = 6 ∧ 1 = 0 ∧ (σ20 0 15) = 4 ∧ (σ20 0 16) = tka b n m p) ∨ (¬ σ 3 1 = 6 ∧ ¬ tkc b n m (tkp b n m p) = 300 ∧ 1 = 0 ∧ (σ20 0 15) = 1 ∧ (σ20 0 16) = tka b n m (tkp b n m p)) ∨ (¬ σ 3 1 = 6 ∧ tkc b n m (tkp b n m p) = 300 ∧ ¬ fnd (fun q => σ 5 (6 + q)) (σ 3 1).toNat (tkw b n m (tkp b n m p)) = -1 ∧ 1 = 0 ∧ (σ20 0 15) = 3 ∧ (σ20 0 16) = tka b n m (tkp b n m p)) ∨ (¬ σ 3 1 = 6 ∧ tkc b n m (tkp b n m p) = 300 ∧ fnd (fun q => σ 5 (6 + q)) (σ 3 1).toNat (tkw b n m (tkp b n m p)) = -1 ∧ 1 = 1) from by (refine (Or.inr (Or.inr (Or.inr ?_))); and_intros <;> omega)), fun _ => ⟨hR, hz3, hz5, (show σ20 0 20 = σ 0 20 from by omega), (show σ20 0 21 = σ 0 21 from by omega), (show σ20 0 22 = σ 0 22 from by omega)⟩⟩
          · refine s_badE (σ := σ7) (kind := 3) (fun r21 σ21 f21 p21 => ?_)
            replace p21 : r21 = 0 ∧ σ21 0 15 = 3 ∧ σ21 0 16 = tka b n m (tkp b n m p) := ⟨p21.1, p21.2.1, p21.2.2.trans hR.2.2.2.2.2.1⟩
            have hF := hF.tr f21 (by decide) (by decide)
            refine And.intro rfl ?_
            refine And.intro (by omega) ?_
            exact hQ _ _ hF ⟨(show (σ 3 1 = 6 ∧ r21 = 0 ∧ (σ21 0 15) = 4 ∧ (σ21 0 16) = tka b n m p) ∨ (¬ σ 3 1 = 6 ∧ ¬ tkc b n m (tkp b n m p) = 300 ∧ r21 = 0 ∧ (σ21 0 15) = 1 ∧ (σ21 0 16) = tka b n m (tkp b n m p)) ∨ (¬ σ 3 1 = 6 ∧ tkc b n m (tkp b n m p) = 300 ∧ ¬ fnd (fun q => σ 5 (6 + q)) (σ 3 1).toNat (tkw b n m (tkp b n m p)) = -1 ∧ r21 = 0 ∧ (σ21 0 15) = 3 ∧ (σ21 0 16) = tka b n m (tkp b n m p)) ∨ (¬ σ 3 1 = 6 ∧ tkc b n m (tkp b n m p) = 300 ∧ fnd (fun q => σ 5 (6 + q)) (σ 3 1).toNat (tkw b n m (tkp b n m p)) = -1 ∧ r21 = 1) from by (refine (Or.inr (Or.inr (Or.inl ?_))); and_intros <;> omega)), fun hr => absurd hr (by omega)⟩
        · replace p8 : ¬ tkc b n m (tkp b n m p) = 300 := by
            rcases p8 with q | q
            · exact absurd q.1 (by omega)
            · exact q.2
          refine s_badE (σ := σ7) (kind := 1) (fun r22 σ22 f22 p22 => ?_)
          replace p22 : r22 = 0 ∧ σ22 0 15 = 1 ∧ σ22 0 16 = tka b n m (tkp b n m p) := ⟨p22.1, p22.2.1, p22.2.2.trans hR.2.2.2.2.2.1⟩
          have hF := hF.tr f22 (by decide) (by decide)
          refine And.intro rfl ?_
          refine And.intro (by omega) ?_
          exact hQ _ _ hF ⟨(show (σ 3 1 = 6 ∧ r22 = 0 ∧ (σ22 0 15) = 4 ∧ (σ22 0 16) = tka b n m p) ∨ (¬ σ 3 1 = 6 ∧ ¬ tkc b n m (tkp b n m p) = 300 ∧ r22 = 0 ∧ (σ22 0 15) = 1 ∧ (σ22 0 16) = tka b n m (tkp b n m p)) ∨ (¬ σ 3 1 = 6 ∧ tkc b n m (tkp b n m p) = 300 ∧ ¬ fnd (fun q => σ 5 (6 + q)) (σ 3 1).toNat (tkw b n m (tkp b n m p)) = -1 ∧ r22 = 0 ∧ (σ22 0 15) = 3 ∧ (σ22 0 16) = tka b n m (tkp b n m p)) ∨ (¬ σ 3 1 = 6 ∧ tkc b n m (tkp b n m p) = 300 ∧ fnd (fun q => σ 5 (6 + q)) (σ 3 1).toNat (tkw b n m (tkp b n m p)) = -1 ∧ r22 = 1) from by (refine (Or.inr (Or.inl ?_)); and_intros <;> omega)), fun hr => absurd hr (by omega)⟩
      · refine s_badE (σ := σ) (kind := 4) (fun r23 σ23 f23 p23 => ?_)
        replace p23 : r23 = 0 ∧ σ23 0 15 = 4 ∧ σ23 0 16 = tka b n m p := ⟨p23.1, p23.2.1, p23.2.2.trans hR.2.2.2.2.2.1⟩
        have hF := hF.tr f23 (by decide) (by decide)
        refine And.intro rfl ?_
        refine And.intro (by omega) ?_
        exact hQ _ _ hF ⟨(show (σ 3 1 = 6 ∧ r23 = 0 ∧ (σ23 0 15) = 4 ∧ (σ23 0 16) = tka b n m p) ∨ (¬ σ 3 1 = 6 ∧ ¬ tkc b n m (tkp b n m p) = 300 ∧ r23 = 0 ∧ (σ23 0 15) = 1 ∧ (σ23 0 16) = tka b n m (tkp b n m p)) ∨ (¬ σ 3 1 = 6 ∧ tkc b n m (tkp b n m p) = 300 ∧ ¬ fnd (fun q => σ 5 (6 + q)) (σ 3 1).toNat (tkw b n m (tkp b n m p)) = -1 ∧ r23 = 0 ∧ (σ23 0 15) = 3 ∧ (σ23 0 16) = tka b n m (tkp b n m p)) ∨ (¬ σ 3 1 = 6 ∧ tkc b n m (tkp b n m p) = 300 ∧ fnd (fun q => σ 5 (6 + q)) (σ 3 1).toNat (tkw b n m (tkp b n m p)) = -1 ∧ r23 = 1) from by (refine (Or.inl ?_); and_intros <;> omega)), fun hr => absurd hr (by omega)⟩
  · replace p1 : tkc b n m p = 0 := by
      rcases p1 with q | q
      · exact q.2
      · exact absurd q.1 (by omega)
    exfalso; omega
