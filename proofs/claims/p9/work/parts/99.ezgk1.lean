set_option maxHeartbeats 4000000 in
set_option maxRecDepth 100000 in
theorem s_line_0 {b : Nat → Int} {n m p : Int} {σ : xS} {Q : Option xV → xS → Prop} (hp0 : 0 ≤ σ 0 4 ∧ σ 0 4 ≤ n ∧ n ≤ 940) (hp1 : TH (σ 3) (σ 0 20)) (hp2 : BYx b n) (hp3 : σ 1 = b ∧ σ 0 3 = n ∧ σ 0 5 = m) (hp4 : RRs σ b n m p) (hp5 : ∀ j : Nat, j < 19 → σ 6 j = R8.getD j 0) (hp6 : tkc b n m p = 0) (hp7 : (σ 0 20 = 0 ∨ σ 0 20 = 1) ∧ (σ 0 21 = 0 ∨ σ 0 21 = 1) ∧ (σ 0 22 = 0 ∨ σ 0 22 = 1)) (hQ : ∀ r : Int, ∀ σ' : xS, Fr [3, 5] [4, 11, 12, 13, 14, 15, 16, 17, 18, 20, 21, 22] σ σ' → (((σ 0 20 = 1 ∧ r = 0 ∧ σ' 0 15 = 3 ∧ σ' 0 16 = tka b n m p) ∨ (σ 0 20 = 0 ∧ ¬ tkc b n m (tkp b n m p) = 301 ∧ r = 0 ∧ σ' 0 15 = 1 ∧ σ' 0 16 = tka b n m (tkp b n m p)) ∨ (σ 0 20 = 0 ∧ tkc b n m (tkp b n m p) = 301 ∧ ¬ (2 ≤ tkv b n m (tkp b n m p) ∧ tkv b n m (tkp b n m p) ≤ 13) ∧ r = 0 ∧ σ' 0 15 = 2 ∧ σ' 0 16 = tka b n m (tkp b n m p)) ∨ (σ 0 20 = 0 ∧ tkc b n m (tkp b n m p) = 301 ∧ (2 ≤ tkv b n m (tkp b n m p) ∧ tkv b n m (tkp b n m p) ≤ 13) ∧ r = 1)) ∧ (r = 1 → RRs σ' b n m (tkp b n m (tkp b n m p)) ∧ σ' 3 = up (σ 3) 0 (tkv b n m (tkp b n m p)) ∧ σ' 5 = σ 5 ∧ σ' 0 20 = 1 ∧ σ' 0 21 = σ 0 21 ∧ σ' 0 22 = σ 0 22)) → Q (some (xvi r)) σ') : xT kX11_line [xvr 0] σ Q := by
  refine ⟨Nat.le_of_ble_eq_true rfl, fun X hX => ?_⟩
  show X 0 [xvr 0] σ
  have hF : Fr [3, 5] [4, 11, 12, 13, 14, 15, 16, 17, 18, 20, 21, 22] σ σ := Fr.rf
  refine hX 400 0 _ _ ?_
  have hT := hp1
  have hmm := hT.hd0
  have hy := hp2
  obtain ⟨hb, hs, hm⟩ := id hp3
  have hR := hp4
  have hrw := hp5
  have hp4 : 0 ≤ σ 0 4 ∧ σ 0 4 ≤ n := by omega
  have hn9 : n ≤ 940 := hp0.2.2
  have hz3 : σ 3 = σ 3 := rfl
  have hz5 : σ 5 = σ 5 := rfl
  have hj := hp6
  have hfl := hp7
  refine s_isWordT (σ := σ) (j := 0) hR (by decide) (by decide +kernel) (fun r1 p1 => ?_)
  replace p1 : (r1 = 1 ∧ tkc b n m p = 0) ∨ (r1 = 0 ∧ ¬ tkc b n m p = 0) := p1
  refine And.intro (fun c2 => ?_) (fun c2 => ?_)
  · replace p1 : ¬ tkc b n m p = 0 := by
      rcases p1 with q | q
      · exact absurd q.1 (by omega)
      · exact q.2
    exfalso; omega
  · replace p1 : tkc b n m p = 0 := by
      rcases p1 with q | q
      · exact q.2
      · exact absurd q.1 (by omega)
    intro v3 e3 l3 h3
    have e3 : v3 = σ 0 20 := e3
    refine And.intro (fun c4 => ?_) (fun c4 => ?_)
    · refine And.intro (by omega) ?_
      have hF := hF.p (j := 20) (v := 1) (by decide)
      refine s_nxG (σ := (xput σ 0 20 1)) (b := b) (n := n) (m := m) (p := (tkp b n m p)) (show 0 ≤ σ 0 4 ∧ σ 0 4 ≤ n ∧ n ≤ 940 from by omega) hy (show σ 1 = b from hb) (show σ 0 3 = n from by omega) (show σ 0 5 = m from by omega) (show σ 0 4 = (tkp b n m p) from by have z := hR.2.2.2.2.2.2; omega) (fun σ6 f6 p6 => ?_)
      replace hR : RRs σ6 b n m (tkp b n m p) := p6.2
      replace hp4 : 0 ≤ σ6 0 4 ∧ σ6 0 4 ≤ n := p6.1
      replace hb : σ6 1 = b := (f6.1 1 (by decide) (by decide)).trans hb
      replace hs : σ6 0 3 = n := (f6.2 3 (by decide)).trans (show σ 0 3 = n from by omega)
      replace hm : σ6 0 5 = m := (f6.2 5 (by decide)).trans (show σ 0 5 = m from by omega)
      replace hrw : ∀ j : Nat, j < 19 → σ6 6 j = R8.getD j 0 := by
        rw [show σ6 6 = σ 6 from f6.1 6 (by decide) (by decide)]; exact hrw
      have hF := hF.tr f6 (by decide) (by decide)
      replace hz3 := (f6.1 3 (by decide) (by decide)).trans hz3
      replace hz5 := (f6.1 5 (by decide) (by decide)).trans hz5
      have z20_6 : σ6 0 20 = 1 := f6.2 20 (by decide)
      have z21_6 : σ6 0 21 = σ 0 21 := f6.2 21 (by decide)
      have z22_6 : σ6 0 22 = σ 0 22 := f6.2 22 (by decide)
      refine s_takesG (σ := σ6) (b := b) (n := n) (m := m) (p := (tkp b n m p)) (low := 2) (high := 13) (show 0 ≤ σ6 0 4 ∧ σ6 0 4 ≤ n ∧ n ≤ 940 from by omega) hy (show σ6 1 = b from hb) (show σ6 0 3 = n from by omega) (show σ6 0 5 = m from by omega) hR (fun r7 σ7 f7 p7 => ?_)
      have p7 : (r7 = 1 ∧ tkc b n m (tkp b n m p) = 301 ∧ (2 ≤ tkv b n m (tkp b n m p) ∧ tkv b n m (tkp b n m p) ≤ 13) ∧ σ7 0 18 = tkv b n m (tkp b n m p) ∧ (0 ≤ σ7 0 4 ∧ σ7 0 4 ≤ n) ∧ RRs σ7 b n m (tkp b n m (tkp b n m p))) ∨ (r7 = 0 ∧ ¬ tkc b n m (tkp b n m p) = 301 ∧ σ7 0 15 = 1 ∧ σ7 0 16 = tka b n m (tkp b n m p)) ∨ (r7 = 0 ∧ tkc b n m (tkp b n m p) = 301 ∧ ¬ (2 ≤ tkv b n m (tkp b n m p) ∧ tkv b n m (tkp b n m p) ≤ 13) ∧ σ7 0 15 = 2 ∧ σ7 0 16 = tka b n m (tkp b n m p)) := p7
      have hR2 : r7 = 1 → RRs σ7 b n m (tkp b n m (tkp b n m p)) := fun h => by
        rcases p7 with q | q | q
        · exact q.2.2.2.2.2
        · omega
        · omega
      replace hp4 : r7 = 1 → 0 ≤ σ7 0 4 ∧ σ7 0 4 ≤ n := fun h => by omega
      replace hb : σ7 1 = b := (f7.1 1 (by decide) (by decide)).trans hb
      replace hs : σ7 0 3 = n := (f7.2 3 (by decide)).trans (show σ6 0 3 = n from by omega)
      replace hm : σ7 0 5 = m := (f7.2 5 (by decide)).trans (show σ6 0 5 = m from by omega)
      replace hrw : ∀ j : Nat, j < 19 → σ7 6 j = R8.getD j 0 := by
        rw [show σ7 6 = σ6 6 from f7.1 6 (by decide) (by decide)]; exact hrw
      have hF := hF.tr f7 (by decide) (by decide)
      replace hz3 := (f7.1 3 (by decide) (by decide)).trans hz3
      replace hz5 := (f7.1 5 (by decide) (by decide)).trans hz5
      have z20_7 : σ7 0 20 = σ6 0 20 := f7.2 20 (by decide)
      have z21_7 : σ7 0 21 = σ6 0 21 := f7.2 21 (by decide)
      have z22_7 : σ7 0 22 = σ6 0 22 := f7.2 22 (by decide)
      refine And.intro (fun c8 => ?_) (fun c8 => ?_)
      · intro v9 e9 l9 h9
        have e9 : v9 = σ7 0 18 := e9
        refine And.intro (rfl) (And.intro (⟨by omega, by omega⟩) ?_)
        have hF := hF.pt (t := 3) (j := 0) (v := v9) (by decide) (by decide)
        replace hz3 : (xput σ7 3 0 v9) 3 = up (σ 3) 0 (tkv b n m (tkp b n m p)) := by
          rw [xput_up, show v9 = tkv b n m (tkp b n m p) from by omega]
          first | done | (rw [xput_ne (by decide)]; done) | (rw [hz3]; done) | (rw [xput_ne (by decide), hz3]; done)
        refine And.intro rfl ?_
        refine And.intro (by omega) ?_
        exact hQ _ _ hF ⟨(show (σ 0 20 = 1 ∧ 1 = 0 ∧ (σ7 0 15) = 3 ∧ (σ7 0 16) = tka b n m p) ∨ (σ 0 20 = 0 ∧ ¬ tkc b n m (tkp b n m p) = 301 ∧ 1 = 0 ∧ (σ7 0 15) = 1 ∧ (σ7 0 16) = tka b n m (tkp b n m p)) ∨ (σ 0 20 = 0 ∧ tkc b n m (tkp b n m p) = 301 ∧ ¬ (2 ≤ tkv b n m (tkp b n m p) ∧ tkv b n m (tkp b n m p) ≤ 13) ∧ 1 = 0 ∧ (σ7 0 15) = 2 ∧ (σ7 0 16) = tka b n m (tkp b n m p)) ∨ (σ 0 20 = 0 ∧ tkc b n m (tkp b n m p) = 301 ∧ (2 ≤ tkv b n m (tkp b n m p) ∧ tkv b n m (tkp b n m p) ≤ 13) ∧ 1 = 1) from by (refine (Or.inr (Or.inr (Or.inr ?_))); and_intros <;> omega)), fun _ => ⟨hR2 (by omega), hz3, hz5, (show σ7 0 20 = 1 from by omega), (show σ7 0 21 = σ 0 21 from by omega), (show σ7 0 22 = σ 0 22 from by omega)⟩⟩
      · refine And.intro rfl ?_
        refine And.intro (by omega) ?_
        exact hQ _ _ hF ⟨(show (σ 0 20 = 1 ∧ 0 = 0 ∧ (σ7 0 15) = 3 ∧ (σ7 0 16) = tka b n m p) ∨ (σ 0 20 = 0 ∧ ¬ tkc b n m (tkp b n m p) = 301 ∧ 0 = 0 ∧ (σ7 0 15) = 1 ∧ (σ7 0 16) = tka b n m (tkp b n m p)) ∨ (σ 0 20 = 0 ∧ tkc b n m (tkp b n m p) = 301 ∧ ¬ (2 ≤ tkv b n m (tkp b n m p) ∧ tkv b n m (tkp b n m p) ≤ 13) ∧ 0 = 0 ∧ (σ7 0 15) = 2 ∧ (σ7 0 16) = tka b n m (tkp b n m p)) ∨ (σ 0 20 = 0 ∧ tkc b n m (tkp b n m p) = 301 ∧ (2 ≤ tkv b n m (tkp b n m p) ∧ tkv b n m (tkp b n m p) ≤ 13) ∧ 0 = 1) from by (rcases p7 with q9 | q9 | q9 <;> (first | (exfalso; omega) | (refine (Or.inr (Or.inl ?_)); and_intros <;> omega) | (refine (Or.inr (Or.inr (Or.inl ?_))); and_intros <;> omega)))), fun hr => absurd hr (by omega)⟩
    · refine s_badE (σ := σ) (kind := 3) (fun r11 σ11 f11 p11 => ?_)
      replace p11 : r11 = 0 ∧ σ11 0 15 = 3 ∧ σ11 0 16 = tka b n m p := ⟨p11.1, p11.2.1, p11.2.2.trans hR.2.2.2.2.2.1⟩
      have hF := hF.tr f11 (by decide) (by decide)
      refine And.intro rfl ?_
      refine And.intro (by omega) ?_
      exact hQ _ _ hF ⟨(show (σ 0 20 = 1 ∧ r11 = 0 ∧ (σ11 0 15) = 3 ∧ (σ11 0 16) = tka b n m p) ∨ (σ 0 20 = 0 ∧ ¬ tkc b n m (tkp b n m p) = 301 ∧ r11 = 0 ∧ (σ11 0 15) = 1 ∧ (σ11 0 16) = tka b n m (tkp b n m p)) ∨ (σ 0 20 = 0 ∧ tkc b n m (tkp b n m p) = 301 ∧ ¬ (2 ≤ tkv b n m (tkp b n m p) ∧ tkv b n m (tkp b n m p) ≤ 13) ∧ r11 = 0 ∧ (σ11 0 15) = 2 ∧ (σ11 0 16) = tka b n m (tkp b n m p)) ∨ (σ 0 20 = 0 ∧ tkc b n m (tkp b n m p) = 301 ∧ (2 ≤ tkv b n m (tkp b n m p) ∧ tkv b n m (tkp b n m p) ≤ 13) ∧ r11 = 1) from by (refine (Or.inl ?_); and_intros <;> omega)), fun hr => absurd hr (by omega)⟩
