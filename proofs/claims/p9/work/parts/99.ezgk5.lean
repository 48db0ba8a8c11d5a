set_option maxHeartbeats 4000000 in
set_option maxRecDepth 100000 in
theorem s_line_x {b : Nat → Int} {n m p : Int} {σ : xS} {Q : Option xV → xS → Prop} (hp0 : 0 ≤ σ 0 4 ∧ σ 0 4 ≤ n ∧ n ≤ 940) (hp1 : TH (σ 3) (σ 0 20)) (hp2 : BYx b n) (hp3 : σ 1 = b ∧ σ 0 3 = n ∧ σ 0 5 = m) (hp4 : RRs σ b n m p) (hp5 : ∀ j : Nat, j < 19 → σ 6 j = R8.getD j 0) (hp6 : tkc b n m p < 0 ∨ 5 < tkc b n m p) (hQ : ∀ r : Int, ∀ σ' : xS, Fr [3, 5] [4, 11, 12, 13, 14, 15, 16, 17, 18, 20, 21, 22] σ σ' → (r = 0 ∧ σ' 0 15 = 1 ∧ σ' 0 16 = tka b n m p) → Q (some (xvi r)) σ') : xT kX11_line [xvr 0] σ Q := by
  refine ⟨Nat.le_of_ble_eq_true rfl, fun X hX => ?_⟩
  show X 0 [xvr 0] σ
  have hF : Fr [3, 5] [4, 11, 12, 13, 14, 15, 16, 17, 18, 20, 21, 22] σ σ := Fr.rf
  refine hX 400 0 _ _ ?_
  have hT := hp1
  have hmm := hT.hd0
  have hy := hp2
  obtain ⟨hb, hs, hm⟩ := id hp3
  have hR := hp4
  have hrw := hp5
  have hp4 : 0 ≤ σ 0 4 ∧ σ 0 4 ≤ n := by omega
  have hn9 : n ≤ 940 := hp0.2.2
  have hz3 : σ 3 = σ 3 := rfl
  have hz5 : σ 5 = σ 5 := rfl
  have hj := hp6
  refine s_isWordT (σ := σ) (j := 0) hR (by decide) (by decide +kernel) (fun r1 p1 => ?_)
  replace p1 : (r1 = 1 ∧ tkc b n m p = 0) ∨ (r1 = 0 ∧ ¬ tkc b n m p = 0) := p1
  refine And.intro (fun c2 => ?_) (fun c2 => ?_)
  · replace p1 : ¬ tkc b n m p = 0 := by
      rcases p1 with q | q
      · exact absurd q.1 (by omega)
      · exact q.2
    refine s_isWordT (σ := σ) (j := 1) hR (by decide) (by decide +kernel) (fun r3 p3 => ?_)
    replace p3 : (r3 = 1 ∧ tkc b n m p = 1) ∨ (r3 = 0 ∧ ¬ tkc b n m p = 1) := p3
    refine And.intro (fun c4 => ?_) (fun c4 => ?_)
    · replace p3 : ¬ tkc b n m p = 1 := by
        rcases p3 with q | q
        · exact absurd q.1 (by omega)
        · exact q.2
      refine s_isWordT (σ := σ) (j := 2) hR (by decide) (by decide +kernel) (fun r5 p5 => ?_)
      replace p5 : (r5 = 1 ∧ tkc b n m p = 2) ∨ (r5 = 0 ∧ ¬ tkc b n m p = 2) := p5
      refine And.intro (fun c6 => ?_) (fun c6 => ?_)
      · replace p5 : ¬ tkc b n m p = 2 := by
          rcases p5 with q | q
          · exact absurd q.1 (by omega)
          · exact q.2
        refine s_isWordT (σ := σ) (j := 3) hR (by decide) (by decide +kernel) (fun r7 p7 => ?_)
        replace p7 : (r7 = 1 ∧ tkc b n m p = 3) ∨ (r7 = 0 ∧ ¬ tkc b n m p = 3) := p7
        refine And.intro (fun c8 => ?_) (fun c8 => ?_)
        · replace p7 : ¬ tkc b n m p = 3 := by
            rcases p7 with q | q
            · exact absurd q.1 (by omega)
            · exact q.2
          refine s_isWordT (σ := σ) (j := 4) hR (by decide) (by decide +kernel) (fun r9 p9 => ?_)
          replace p9 : (r9 = 1 ∧ tkc b n m p = 4) ∨ (r9 = 0 ∧ ¬ tkc b n m p = 4) := p9
          refine And.intro (fun c10 => ?_) (fun c10 => ?_)
          · replace p9 : ¬ tkc b n m p = 4 := by
              rcases p9 with q | q
              · exact absurd q.1 (by omega)
              · exact q.2
            refine s_isWordT (σ := σ) (j := 5) hR (by decide) (by decide +kernel) (fun r11 p11 => ?_)
            replace p11 : (r11 = 1 ∧ tkc b n m p = 5) ∨ (r11 = 0 ∧ ¬ tkc b n m p = 5) := p11
            refine And.intro (fun c12 => ?_) (fun c12 => ?_)
            · replace p11 : tkc b n m p = 5 := by
                rcases p11 with q | q
                · exact q.2
                · exact absurd q.1 (by omega)
              exfalso; omega
            · replace p11 : ¬ tkc b n m p = 5 := by
                rcases p11 with q | q
                · exact absurd q.1 (by omega)
                · exact q.2
              refine s_badE (σ := σ) (kind := 1) (fun r13 σ13 f13 p13 => ?_)
              replace p13 : r13 = 0 ∧ σ13 0 15 = 1 ∧ σ13 0 16 = tka b n m p := ⟨p13.1, p13.2.1, p13.2.2.trans hR.2.2.2.2.2.1⟩
              have hF := hF.tr f13 (by decide) (by decide)
              refine And.intro rfl ?_
              refine And.intro (by omega) ?_
              exact hQ _ _ hF (show r13 = 0 ∧ (σ13 0 15) = 1 ∧ (σ13 0 16) = tka b n m p from by omega)
          · replace p9 : tkc b n m p = 4 := by
              rcases p9 with q | q
              · exact q.2
              · exact absurd q.1 (by omega)
            exfalso; omega
        · replace p7 : tkc b n m p = 3 := by
            rcases p7 with q | q
            · exact q.2
            · exact absurd q.1 (by omega)
          exfalso; omega
      · replace p5 : tkc b n m p = 2 := by
          rcases p5 with q | q
          · exact q.2
          · exact absurd q.1 (by omega)
        exfalso; omega
    · replace p3 : tkc b n m p = 1 := by
        rcases p3 with q | q
        · exact q.2
        · exact absurd q.1 (by omega)
      exfalso; omega
  · replace p1 : tkc b n m p = 0 := by
      rcases p1 with q | q
      · exact q.2
      · exact absurd q.1 (by omega)
    exfalso; omega

