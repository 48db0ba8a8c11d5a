set_option maxHeartbeats 4000000 in
set_option maxRecDepth 100000 in
theorem s_line_4 {b : Nat → Int} {n m p : Int} {σ : xS} {Q : Option xV → xS → Prop} (hp0 : 0 ≤ σ 0 4 ∧ σ 0 4 ≤ n ∧ n ≤ 940) (hp1 : TH (σ 3) (σ 0 20)) (hp2 : BYx b n) (hp3 : σ 1 = b ∧ σ 0 3 = n ∧ σ 0 5 = m) (hp4 : RRs σ b n m p) (hp5 : ∀ j : Nat, j < 19 → σ 6 j = R8.getD j 0) (hp6 : tkc b n m p = 4) (hp7 : (σ 0 20 = 0 ∨ σ 0 20 = 1) ∧ (σ 0 21 = 0 ∨ σ 0 21 = 1) ∧ (σ 0 22 = 0 ∨ σ 0 22 = 1)) (hQ : ∀ r : Int, ∀ σ' : xS, Fr [3, 5] [4, 11, 12, 13, 14, 15, 16, 17, 18, 20, 21, 22] σ σ' → (((σ 0 21 = 1 ∧ r = 0 ∧ σ' 0 15 = 3 ∧ σ' 0 16 = tka b n m p) ∨ (σ 0 21 = 0 ∧ r = 1)) ∧ (r = 1 → RRs σ' b n m (tkp b n m p) ∧ σ' 3 = up (σ 3) 2 1 ∧ σ' 5 = σ 5 ∧ σ' 0 20 = σ 0 20 ∧ σ' 0 21 = 1 ∧ σ' 0 22 = σ 0 22)) → Q (some (xvi r)) σ') : xT kX11_line [xvr 0] σ Q := by
  refine ⟨Nat.le_of_ble_eq_true rfl, fun X hX => ?_⟩
  show X 0 [xvr 0] σ
  have hF : Fr [3, 5] [4, 11, 12, 13, 14, 15, 16, 17, 18, 20, 21, 22] σ σ := Fr.rf
  refine hX 400 0 _ _ ?_
  have hT := hp1
  have hmm := hT.hd0
  have hy := hp2
  obtain ⟨hb, hs, hm⟩ := id hp3
  have hR := hp4
  have hrw := hp5
  have hp4 : 0 ≤ σ 0 4 ∧ σ 0 4 ≤ n := by omega
  have hn9 : n ≤ 940 := hp0.2.2
  have hz3 : σ 3 = σ 3 := rfl
  have hz5 : σ 5 = σ 5 := rfl
  have hj := hp6
  have hfl := hp7
  refine s_isWordT (σ := σ) (j := 0) hR (by decide) (by decide +kernel) (fun r1 p1 => ?_)
  replace p1 : (r1 = 1 ∧ tkc b n m p = 0) ∨ (r1 = 0 ∧ ¬ tkc b n m p = 0) := p1
  refine And.intro (fun c2 => ?_) (fun c2 => ?_)
  · replace p1 : ¬ tkc b n m p = 0 := by
      rcases p1 with q | q
      · exact absurd q.1 (by omega)
      · exact q.2
    refine s_isWordT (σ := σ) (j := 1) hR (by decide) (by decide +kernel) (fun r3 p3 => ?_)
    replace p3 : (r3 = 1 ∧ tkc b n m p = 1) ∨ (r3 = 0 ∧ ¬ tkc b n m p = 1) := p3
    refine And.intro (fun c4 => ?_) (fun c4 => ?_)
    · replace p3 : ¬ tkc b n m p = 1 := by
        rcases p3 with q | q
        · exact absurd q.1 (by omega)
        · exact q.2
      refine s_isWordT (σ := σ) (j := 2) hR (by decide) (by decide +kernel) (fun r5 p5 => ?_)
      replace p5 : (r5 = 1 ∧ tkc b n m p = 2) ∨ (r5 = 0 ∧ ¬ tkc b n m p = 2) := p5
      refine And.intro (fun c6 => ?_) (fun c6 => ?_)
      · replace p5 : ¬ tkc b n m p = 2 := by
          rcases p5 with q | q
          · exact absurd q.1 (by omega)
          · exact q.2
        refine s_isWordT (σ := σ) (j := 3) hR (by decide) (by decide +kernel) (fun r7 p7 => ?_)
        replace p7 : (r7 = 1 ∧ tkc b n m p = 3) ∨ (r7 = 0 ∧ ¬ tkc b n m p = 3) := p7
        refine And.intro (fun c8 => ?_) (fun c8 => ?_)
        · replace p7 : ¬ tkc b n m p = 3 := by
            rcases p7 with q | q
            · exact absurd q.1 (by omega)
            · exact q.2
          refine s_isWordT (σ := σ) (j := 4) hR (by decide) (by decide +kernel) (fun r9 p9 => ?_)
          replace p9 : (r9 = 1 ∧ tkc b n m p = 4) ∨ (r9 = 0 ∧ ¬ tkc b n m p = 4) := p9
          refine And.intro (fun c10 => ?_) (fun c10 => ?_)
          · replace p9 : ¬ tkc b n m p = 4 := by
              rcases p9 with q | q
              · exact absurd q.1 (by omega)
              · exact q.2
            exfalso; omega
          · replace p9 : tkc b n m p = 4 := by
              rcases p9 with q | q
              · exact q.2
              · exact absurd q.1 (by omega)
            intro v11 e11 l11 h11
            have e11 : v11 = σ 0 21 := e11
            refine And.intro (fun c12 => ?_) (fun c12 => ?_)
            · refine And.intro (by omega) ?_
              have hF := hF.p (j := 21) (v := 1) (by decide)
              refine And.intro (rfl) (And.intro (⟨by omega, by omega⟩) ?_)
              have hF := hF.pt (t := 3) (j := 2) (v := 1) (by decide) (by decide)
              replace hz3 : (xput (xput σ 0 21 1) 3 2 1) 3 = up (σ 3) 2 (1) := by
                rw [xput_up]
                first | done | (rw [xput_ne (by decide)]; done) | (rw [hz3]; done) | (rw [xput_ne (by decide), hz3]; done)
              refine s_nxG (σ := (xput (xput σ 0 21 1) 3 2 1)) (b := b) (n := n) (m := m) (p := (tkp b n m p)) (show 0 ≤ σ 0 4 ∧ σ 0 4 ≤ n ∧ n ≤ 940 from by omega) hy (show σ 1 = b from hb) (show σ 0 3 = n from by omega) (show σ 0 5 = m from by omega) (show σ 0 4 = (tkp b n m p) from by have z := hR.2.2.2.2.2.2; omega) (fun σ15 f15 p15 => ?_)
              replace hR : RRs σ15 b n m (tkp b n m p) := p15.2
              replace hp4 : 0 ≤ σ15 0 4 ∧ σ15 0 4 ≤ n := p15.1
              replace hb : σ15 1 = b := (f15.1 1 (by decide) (by decide)).trans hb
              replace hs : σ15 0 3 = n := (f15.2 3 (by decide)).trans (show σ 0 3 = n from by omega)
              replace hm : σ15 0 5 = m := (f15.2 5 (by decide)).trans (show σ 0 5 = m from by omega)
              replace hrw : ∀ j : Nat, j < 19 → σ15 6 j = R8.getD j 0 := by
                rw [show σ15 6 = σ 6 from f15.1 6 (by decide) (by decide)]; exact hrw
              have hF := hF.tr f15 (by decide) (by decide)
              replace hz3 := (f15.1 3 (by decide) (by decide)).trans hz3
              replace hz5 := (f15.1 5 (by decide) (by decide)).trans hz5
              have z20_15 : σ15 0 20 = σ 0 20 := f15.2 20 (by decide)
              have z21_15 : σ15 0 21 = 1 := f15.2 21 (by decide)
              have z22_15 : σ15 0 22 = σ 0 22 := f15.2 22 (by decide)
              refine And.intro rfl ?_
              refine And.intro (by omega) ?_
              exact hQ _ _ hF ⟨(show (σ 0 21 = 1 ∧ 1 = 0 ∧ (σ15 0 15) = 3 ∧ (σ15 0 16) = tka b n m p) ∨ (σ 0 21 = 0 ∧ 1 = 1) from by (refine (Or.inr ?_); and_intros <;> omega)), fun _ => ⟨hR, hz3, hz5, (show σ15 0 20 = σ 0 20 from by omega), (show σ15 0 21 = 1 from by omega), (show σ15 0 22 = σ 0 22 from by omega)⟩⟩
            · refine s_badE (σ := σ) (kind := 3) (fun r16 σ16 f16 p16 => ?_)
              replace p16 : r16 = 0 ∧ σ16 0 15 = 3 ∧ σ16 0 16 = tka b n m p := ⟨p16.1, p16.2.1, p16.2.2.trans hR.2.2.2.2.2.1⟩
              have hF := hF.tr f16 (by decide) (by decide)
              refine And.intro rfl ?_
              refine And.intro (by omega) ?_
              exact hQ _ _ hF ⟨(show (σ 0 21 = 1 ∧ r16 = 0 ∧ (σ16 0 15) = 3 ∧ (σ16 0 16) = tka b n m p) ∨ (σ 0 21 = 0 ∧ r16 = 1) from by (refine (Or.inl ?_); and_intros <;> omega)), fun hr => absurd hr (by omega)⟩
        · replace p7 : tkc b n m p = 3 := by
            rcases p7 with q | q
            · exact q.2
            · exact absurd q.1 (by omega)
          exfalso; omega
      · replace p5 : tkc b n m p = 2 := by
          rcases p5 with q | q
          · exact q.2
          · exact absurd q.1 (by omega)
        exfalso; omega
    · replace p3 : tkc b n m p = 1 := by
        rcases p3 with q | q
        · exact q.2
        · exact absurd q.1 (by omega)
      exfalso; omega
  · replace p1 : tkc b n m p = 0 := by
      rcases p1 with q | q
      · exact q.2
      · exact absurd q.1 (by omega)
    exfalso; omega
