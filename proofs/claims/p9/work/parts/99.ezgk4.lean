set_option maxHeartbeats 4000000 in
set_option maxRecDepth 100000 in
theorem s_line_5 {b : Nat → Int} {n m p : Int} {σ : xS} {Q : Option xV → xS → Prop} (hp0 : 0 ≤ σ 0 4 ∧ σ 0 4 ≤ n ∧ n ≤ 940) (hp1 : TH (σ 3) (σ 0 20)) (hp2 : BYx b n) (hp3 : σ 1 = b ∧ σ 0 3 = n ∧ σ 0 5 = m) (hp4 : RRs σ b n m p) (hp5 : ∀ j : Nat, j < 19 → σ 6 j = R8.getD j 0) (hp6 : tkc b n m p = 5) (hp7 : (σ 0 20 = 0 ∨ σ 0 20 = 1) ∧ (σ 0 21 = 0 ∨ σ 0 21 = 1) ∧ (σ 0 22 = 0 ∨ σ 0 22 = 1)) (hQ : ∀ r : Int, ∀ σ' : xS, Fr [3, 5] [4, 11, 12, 13, 14, 15, 16, 17, 18, 20, 21, 22] σ σ' → (((σ 0 22 = 1 ∧ r = 0 ∧ σ' 0 15 = 3 ∧ σ' 0 16 = tka b n m p) ∨ (σ 0 22 = 0 ∧ ¬ tkc b n m (tkp b n m p) = 301 ∧ r = 0 ∧ σ' 0 15 = 1 ∧ σ' 0 16 = tka b n m (tkp b n m p)) ∨ (σ 0 22 = 0 ∧ tkc b n m (tkp b n m p) = 301 ∧ ¬ (0 ≤ tkv b n m (tkp b n m p) ∧ tkv b n m (tkp b n m p) ≤ 9) ∧ r = 0 ∧ σ' 0 15 = 2 ∧ σ' 0 16 = tka b n m (tkp b n m p)) ∨ (σ 0 22 = 0 ∧ tkc b n m (tkp b n m p) = 301 ∧ (0 ≤ tkv b n m (tkp b n m p) ∧ tkv b n m (tkp b n m p) ≤ 9) ∧ r = 1)) ∧ (r = 1 → RRs σ' b n m (tkp b n m (tkp b n m p)) ∧ σ' 3 = up (σ 3) 3 (tkv b n m (tkp b n m p)) ∧ σ' 5 = σ 5 ∧ σ' 0 20 = σ 0 20 ∧ σ' 0 21 = σ 0 21 ∧ σ' 0 22 = 1)) → Q (some (xvi r)) σ') : xT kX11_line [xvr 0] σ Q := by
  refine ⟨Nat.le_of_ble_eq_true rfl, fun X hX => ?_⟩
  show X 0 [xvr 0] σ
  have hF : Fr [3, 5] [4, 11, 12, 13, 14, 15, 16, 17, 18, 20, 21, 22] σ σ := Fr.rf
  refine hX 400 0 _ _ ?_
  have hT := hp1
  have hmm := hT.hd0
  have hy := hp2
  obtain ⟨hb, hs, hm⟩ := id hp3
  have hR := hp4
  have hrw := hp5
  have hp4 : 0 ≤ σ 0 4 ∧ σ 0 4 ≤ n := by omega
  have hn9 : n ≤ 940 := hp0.2.2
  have hz3 : σ 3 = σ 3 := rfl
  have hz5 : σ 5 = σ 5 := rfl
  have hj := hp6
  have hfl := hp7
  refine s_isWordT (σ := σ) (j := 0) hR (by decide) (by decide +kernel) (fun r1 p1 => ?_)
  replace p1 : (r1 = 1 ∧ tkc b n m p = 0) ∨ (r1 = 0 ∧ ¬ tkc b n m p = 0) := p1
  refine And.intro (fun c2 => ?_) (fun c2 => ?_)
  · replace p1 : ¬ tkc b n m p = 0 := by
      rcases p1 with q | q
      · exact absurd q.1 (by omega)
      · exact q.2
    refine s_isWordT (σ := σ) (j := 1) hR (by decide) (by decide +kernel) (fun r3 p3 => ?_)
    replace p3 : (r3 = 1 ∧ tkc b n m p = 1) ∨ (r3 = 0 ∧ ¬ tkc b n m p = 1) := p3
    refine And.intro (fun c4 => ?_) (fun c4 => ?_)
    · replace p3 : ¬ tkc b n m p = 1 := by
        rcases p3 with q | q
        · exact absurd q.1 (by omega)
        · exact q.2
      refine s_isWordT (σ := σ) (j := 2) hR (by decide) (by decide +kernel) (fun r5 p5 => ?_)
      replace p5 : (r5 = 1 ∧ tkc b n m p = 2) ∨ (r5 = 0 ∧ ¬ tkc b n m p = 2) := p5
      refine And.intro (fun c6 => ?_) (fun c6 => ?_)
      · replace p5 : ¬ tkc b n m p = 2 := by
          rcases p5 with q | q
          · exact absurd q.1 (by omega)
          · exact q.2
        refine s_isWordT (σ := σ) (j := 3) hR (by decide) (by decide +kernel) (fun r7 p7 => ?_)
        replace p7 : (r7 = 1 ∧ tkc b n m p = 3) ∨ (r7 = 0 ∧ ¬ tkc b n m p = 3) := p7
        refine And.intro (fun c8 => ?_) (fun c8 => ?_)
        · replace p7 : ¬ tkc b n m p = 3 := by
            rcases p7 with q | q
            · exact absurd q.1 (by omega)
            · exact q.2
          refine s_isWordT (σ := σ) (j := 4) hR (by decide) (by decide +kernel) (fun r9 p9 => ?_)
          replace p9 : (r9 = 1 ∧ tkc b n m p = 4) ∨ (r9 = 0 ∧ ¬ tkc b n m p = 4) := p9
          refine And.intro (fun c10 => ?_) (fun c10 => ?_)
          · replace p9 : ¬ tkc b n m p = 4 := by
              rcases p9 with q | q
              · exact absurd q.1 (by omega)
              · exact q.2
            refine s_isWordT (σ := σ) (j := 5) hR (by decide) (by decide +kernel) (fun r11 p11 => ?_)
            replace p11 : (r11 = 1 ∧ tkc b n m p = 5) ∨ (r11 = 0 ∧ ¬ tkc b n m p = 5) := p11
            refine And.intro (fun c12 => ?_) (fun c12 => ?_)
            · replace p11 : tkc b n m p = 5 := by
                rcases p11 with q | q
                · exact q.2
                · exact absurd q.1 (by omega)
              intro v13 e13 l13 h13
              have e13 : v13 = σ 0 22 := e13
              refine And.intro (fun c14 => ?_) (fun c14 => ?_)
              · refine And.intro (by omega) ?_
                have hF := hF.p (j := 22) (v := 1) (by decide)
                refine s_nxG (σ := (xput σ 0 22 1)) (b := b) (n := n) (m := m) (p := (tkp b n m p)) (show 0 ≤ σ 0 4 ∧ σ 0 4 ≤ n ∧ n ≤ 940 from by omega) hy (show σ 1 = b from hb) (show σ 0 3 = n from by omega) (show σ 0 5 = m from by omega) (show σ 0 4 = (tkp b n m p) from by have z := hR.2.2.2.2.2.2; omega) (fun σ16 f16 p16 => ?_)
                replace hR : RRs σ16 b n m (tkp b n m p) := p16.2
                replace hp4 : 0 ≤ σ16 0 4 ∧ σ16 0 4 ≤ n := p16.1
                replace hb : σ16 1 = b := (f16.1 1 (by decide) (by decide)).trans hb
                replace hs : σ16 0 3 = n := (f16.2 3 (by decide)).trans (show σ 0 3 = n from by omega)
                replace hm : σ16 0 5 = m := (f16.2 5 (by decide)).trans (show σ 0 5 = m from by omega)
                replace hrw : ∀ j : Nat, j < 19 → σ16 6 j = R8.getD j 0 := by
                  rw [show σ16 6 = σ 6 from f16.1 6 (by decide) (by decide)]; exact hrw
                have hF := hF.tr f16 (by decide) (by decide)
                replace hz3 := (f16.1 3 (by decide) (by decide)).trans hz3
                replace hz5 := (f16.1 5 (by decide) (by decide)).trans hz5
                have z20_16 : σ16 0 20 = σ 0 20 := f16.2 20 (by decide)
                have z21_16 : σ16 0 21 = σ 0 21 := f16.2 21 (by decide)
                have z22_16 : σ16 0 22 = 1 := f16.2 22 (by decide)
                refine s_takesG (σ := σ16) (b := b) (n := n) (m := m) (p := (tkp b n m p)) (low := 0) (high := 9) (show 0 ≤ σ16 0 4 ∧ σ16 0 4 ≤ n ∧ n ≤ 940 from by omega) hy (show σ16 1 = b from hb) (show σ16 0 3 = n from by omega) (show σ16 0 5 = m from by omega) hR (fun r17 σ17 f17 p17 => ?_)
                have p17 : (r17 = 1 ∧ tkc b n m (tkp b n m p) = 301 ∧ (0 ≤ tkv b n m (tkp b n m p) ∧ tkv b n m (tkp b n m p) ≤ 9) ∧ σ17 0 18 = tkv b n m (tkp b n m p) ∧ (0 ≤ σ17 0 4 ∧ σ17 0 4 ≤ n) ∧ RRs σ17 b n m (tkp b n m (tkp b n m p))) ∨ (r17 = 0 ∧ ¬ tkc b n m (tkp b n m p) = 301 ∧ σ17 0 15 = 1 ∧ σ17 0 16 = tka b n m (tkp b n m p)) ∨ (r17 = 0 ∧ tkc b n m (tkp b n m p) = 301 ∧ ¬ (0 ≤ tkv b n m (tkp b n m p) ∧ tkv b n m (tkp b n m p) ≤ 9) ∧ σ17 0 15 = 2 ∧ σ17 0 16 = tka b n m (tkp b n m p)) := p17
                have hR2 : r17 = 1 → RRs σ17 b n m (tkp b n m (tkp b n m p)) := fun h => by
                  rcases p17 with q | q | q
                  · exact q.2.2.2.2.2
                  · omega
                  · omega
                replace hp4 : r17 = 1 → 0 ≤ σ17 0 4 ∧ σ17 0 4 ≤ n := fun h => by omega
                replace hb : σ17 1 = b := (f17.1 1 (by decide) (by decide)).trans hb
                replace hs : σ17 0 3 = n := (f17.2 3 (by decide)).trans (show σ16 0 3 = n from by omega)
                replace hm : σ17 0 5 = m := (f17.2 5 (by decide)).trans (show σ16 0 5 = m from by omega)
                replace hrw : ∀ j : Nat, j < 19 → σ17 6 j = R8.getD j 0 := by
                  rw [show σ17 6 = σ16 6 from f17.1 6 (by decide) (by decide)]; exact hrw
                have hF := hF.tr f17 (by decide) (by decide)
                replace hz3 := (f17.1 3 (by decide) (by decide)).trans hz3
                replace hz5 := (f17.1 5 (by decide) (by decide)).trans hz5
                have z20_17 : σ17 0 20 = σ16 0 20 := f17.2 20 (by decide)
                have z21_17 : σ17 0 21 = σ16 0 21 := f17.2 21 (by decide)
                have z22_17 : σ17 0 22 = σ16 0 22 := f17.2 22 (by decide)
                refine And.intro (fun c18 => ?_) (fun c18 => ?_)
                · intro v19 e19 l19 h19
                  have e19 : v19 = σ17 0 18 := e19
                  refine And.intro (rfl) (And.intro (⟨by omega, by omega⟩) ?_)
                  have hF := hF.pt (t := 3) (j := 3) (v := v19) (by decide) (by decide)
                  replace hz3 : (xput σ17 3 3 v19) 3 = up (σ 3) 3 (tkv b n m (tkp b n m p)) := by
                    rw [xput_up, show v19 = tkv b n m (tkp b n m p) from by omega]
                    first | done | (rw [xput_ne (by decide)]; done) | (rw [hz3]; done) | (rw [xput_ne (by decide), hz3]; done)
                  refine And.intro rfl ?_
                  refine And.intro (by omega) ?_
                  exact hQ _ _ hF ⟨(show (σ 0 22 = 1 ∧ 1 = 0 ∧ (σ17 0 15) = 3 ∧ (σ17 0 16) = tka b n m p) ∨ (σ 0 22 = 0 ∧ ¬ tkc b n m (tkp b n m p) = 301 ∧ 1 = 0 ∧ (σ17 0 15) = 1 ∧ (σ17 0 16) = tka b n m (tkp b n m p)) ∨ (σ 0 22 = 0 ∧ tkc b n m (tkp b n m p) = 301 ∧ ¬ (0 ≤ tkv b n m (tkp b n m p) ∧ tkv b n m (tkp b n m p) ≤ 9) ∧ 1 = 0 ∧ (σ17 0 15) = 2 ∧ (σ17 0 16) = tka b n m (tkp b n m p)) ∨ (σ 0 22 = 0 ∧ tkc b n m (tkp b n m p) = 301 ∧ (0 ≤ tkv b n m (tkp b n m p) ∧ tkv b n m (tkp b n m p) ≤ 9) ∧ 1 = 1) from by (refine (Or.inr (Or.inr (Or.inr ?_))); and_intros <;> omega)), fun _ => ⟨hR2 (by omega), hz3, hz5, (show σ17 0 20 = σ 0 20 from by omega), (show σ17 0 21 = σ 0 21 from by omega), (show σ17 0 22 = 1 from by omega)⟩⟩
                · refine And.intro rfl ?_
                  refine And.intro (by omega) ?_
                  exact hQ _ _ hF ⟨(show (σ 0 22 = 1 ∧ 0 = 0 ∧ (σ17 0 15) = 3 ∧ (σ17 0 16) = tka b n m p) ∨ (σ 0 22 = 0 ∧ ¬ tkc b n m (tkp b n m p) = 301 ∧ 0 = 0 ∧ (σ17 0 15) = 1 ∧ (σ17 0 16) = tka b n m (tkp b n m p)) ∨ (σ 0 22 = 0 ∧ tkc b n m (tkp b n m p) = 301 ∧ ¬ (0 ≤ tkv b n m (tkp b n m p) ∧ tkv b n m (tkp b n m p) ≤ 9) ∧ 0 = 0 ∧ (σ17 0 15) = 2 ∧ (σ17 0 16) = tka b n m (tkp b n m p)) ∨ (σ 0 22 = 0 ∧ tkc b n m (tkp b n m p) = 301 ∧ (0 ≤ tkv b n m (tkp b n m p) ∧ tkv b n m (tkp b n m p) ≤ 9) ∧ 0 = 1) from by (rcases p17 with q9 | q9 | q9 <;> (first | (exfalso; omega) | (refine (Or.inr (Or.inl ?_)); and_intros <;> omega) | (refine (Or.inr (Or.inr (Or.inl ?_))); and_intros <;> omega)))), fun hr => absurd hr (by omega)⟩
              · refine s_badE (σ := σ) (kind := 3) (fun r21 σ21 f21 p21 => ?_)
                replace p21 : r21 = 0 ∧ σ21 0 15 = 3 ∧ σ21 0 16 = tka b n m p := ⟨p21.1, p21.2.1, p21.2.2.trans hR.2.2.2.2.2.1⟩
                have hF := hF.tr f21 (by decide) (by decide)
                refine And.intro rfl ?_
                refine And.intro (by omega) ?_
                exact hQ _ _ hF ⟨(show (σ 0 22 = 1 ∧ r21 = 0 ∧ (σ21 0 15) = 3 ∧ (σ21 0 16) = tka b n m p) ∨ (σ 0 22 = 0 ∧ ¬ tkc b n m (tkp b n m p) = 301 ∧ r21 = 0 ∧ (σ21 0 15) = 1 ∧ (σ21 0 16) = tka b n m (tkp b n m p)) ∨ (σ 0 22 = 0 ∧ tkc b n m (tkp b n m p) = 301 ∧ ¬ (0 ≤ tkv b n m (tkp b n m p) ∧ tkv b n m (tkp b n m p) ≤ 9) ∧ r21 = 0 ∧ (σ21 0 15) = 2 ∧ (σ21 0 16) = tka b n m (tkp b n m p)) ∨ (σ 0 22 = 0 ∧ tkc b n m (tkp b n m p) = 301 ∧ (0 ≤ tkv b n m (tkp b n m p) ∧ tkv b n m (tkp b n m p) ≤ 9) ∧ r21 = 1) from by (refine (Or.inl ?_); and_intros <;> omega)), fun hr => absurd hr (by omega)⟩
            · replace p11 : ¬ tkc b n m p = 5 := by
                rcases p11 with q | q
                · exact absurd q.1 (by omega)
                · exact q.2
              exfalso; omega
          · replace p9 : tkc b n m p = 4 := by
              rcases p9 with q | q
              · exact q.2
              · exact absurd q.1 (by omega)
            exfalso; omega
        · replace p7 : tkc b n m p = 3 := by
            rcases p7 with q | q
            · exact q.2
            · exact absurd q.1 (by omega)
          exfalso; omega
      · replace p5 : tkc b n m p = 2 := by
          rcases p5 with q | q
          · exact q.2
          · exact absurd q.1 (by omega)
        exfalso; omega
    · replace p3 : tkc b n m p = 1 := by
        rcases p3 with q | q
        · exact q.2
        · exact absurd q.1 (by omega)
      exfalso; omega
  · replace p1 : tkc b n m p = 0 := by
      rcases p1 with q | q
      · exact q.2
      · exact absurd q.1 (by omega)
    exfalso; omega
