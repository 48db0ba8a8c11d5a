set_option maxHeartbeats 4000000 in
set_option maxRecDepth 100000 in
theorem s_line_2 {b : Nat → Int} {n m p : Int} {σ : xS} {Q : Option xV → xS → Prop} (hp0 : 0 ≤ σ 0 4 ∧ σ 0 4 ≤ n ∧ n ≤ 940) (hp1 : TH (σ 3) (σ 0 20)) (hp2 : BYx b n) (hp3 : σ 1 = b ∧ σ 0 3 = n ∧ σ 0 5 = m) (hp4 : RRs σ b n m p) (hp5 : ∀ j : Nat, j < 19 → σ 6 j = R8.getD j 0) (hp6 : tkc b n m p = 2) (hQ : ∀ r : Int, ∀ σ' : xS, Fr [3, 5] [4, 11, 12, 13, 14, 15, 16, 17, 18, 20, 21, 22] σ σ' → (((¬ tkc b n m (tkp b n m p) = 300 ∧ r = 0 ∧ σ' 0 15 = 1 ∧ σ' 0 16 = tka b n m (tkp b n m p)) ∨ (tkc b n m (tkp b n m p) = 300 ∧ fnd (fun q => σ 5 (6 + q)) (σ 3 1).toNat (tkw b n m (tkp b n m p)) = -1 ∧ r = 0 ∧ σ' 0 15 = 3 ∧ σ' 0 16 = tka b n m (tkp b n m p)) ∨ (tkc b n m (tkp b n m p) = 300 ∧ ¬ fnd (fun q => σ 5 (6 + q)) (σ 3 1).toNat (tkw b n m (tkp b n m p)) = -1 ∧ ¬ tkc b n m (tkp b n m (tkp b n m p)) = 301 ∧ r = 0 ∧ σ' 0 15 = 1 ∧ σ' 0 16 = tka b n m (tkp b n m (tkp b n m p))) ∨ (tkc b n m (tkp b n m p) = 300 ∧ ¬ fnd (fun q => σ 5 (6 + q)) (σ 3 1).toNat (tkw b n m (tkp b n m p)) = -1 ∧ tkc b n m (tkp b n m (tkp b n m p)) = 301 ∧ ¬ tkv b n m (tkp b n m (tkp b n m p)) < σ 3 0 ∧ r = 0 ∧ σ' 0 15 = 2 ∧ σ' 0 16 = tka b n m (tkp b n m (tkp b n m p))) ∨ (tkc b n m (tkp b n m p) = 300 ∧ ¬ fnd (fun q => σ 5 (6 + q)) (σ 3 1).toNat (tkw b n m (tkp b n m p)) = -1 ∧ tkc b n m (tkp b n m (tkp b n m p)) = 301 ∧ tkv b n m (tkp b n m (tkp b n m p)) < σ 3 0 ∧ 0 < σ 3 (60 + 13 * fnd (fun q => σ 5 (6 + q)) (σ 3 1).toNat (tkw b n m (tkp b n m p)) + tkv b n m (tkp b n m (tkp b n m p))).toNat ∧ r = 0 ∧ σ' 0 15 = 3 ∧ σ' 0 16 = tka b n m (tkp b n m (tkp b n m p))) ∨ (tkc b n m (tkp b n m p) = 300 ∧ ¬ fnd (fun q => σ 5 (6 + q)) (σ 3 1).toNat (tkw b n m (tkp b n m p)) = -1 ∧ tkc b n m (tkp b n m (tkp b n m p)) = 301 ∧ tkv b n m (tkp b n m (tkp b n m p)) < σ 3 0 ∧ σ 3 (60 + 13 * fnd (fun q => σ 5 (6 + q)) (σ 3 1).toNat (tkw b n m (tkp b n m p)) + tkv b n m (tkp b n m (tkp b n m p))).toNat ≤ 0 ∧ ¬ tkc b n m (tkp b n m (tkp b n m (tkp b n m p))) = 301 ∧ r = 0 ∧ σ' 0 15 = 1 ∧ σ' 0 16 = tka b n m (tkp b n m (tkp b n m (tkp b n m p)))) ∨ (tkc b n m (tkp b n m p) = 300 ∧ ¬ fnd (fun q => σ 5 (6 + q)) (σ 3 1).toNat (tkw b n m (tkp b n m p)) = -1 ∧ tkc b n m (tkp b n m (tkp b n m p)) = 301 ∧ tkv b n m (tkp b n m (tkp b n m p)) < σ 3 0 ∧ σ 3 (60 + 13 * fnd (fun q => σ 5 (6 + q)) (σ 3 1).toNat (tkw b n m (tkp b n m p)) + tkv b n m (tkp b n m (tkp b n m p))).toNat ≤ 0 ∧ tkc b n m (tkp b n m (tkp b n m (tkp b n m p))) = 301 ∧ ¬ (1 ≤ tkv b n m (tkp b n m (tkp b n m (tkp b n m p))) ∧ tkv b n m (tkp b n m (tkp b n m (tkp b n m p))) ≤ 4) ∧ r = 0 ∧ σ' 0 15 = 2 ∧ σ' 0 16 = tka b n m (tkp b n m (tkp b n m (tkp b n m p)))) ∨ (tkc b n m (tkp b n m p) = 300 ∧ ¬ fnd (fun q => σ 5 (6 + q)) (σ 3 1).toNat (tkw b n m (tkp b n m p)) = -1 ∧ tkc b n m (tkp b n m (tkp b n m p)) = 301 ∧ tkv b n m (tkp b n m (tkp b n m p)) < σ 3 0 ∧ σ 3 (60 + 13 * fnd (fun q => σ 5 (6 + q)) (σ 3 1).toNat (tkw b n m (tkp b n m p)) + tkv b n m (tkp b n m (tkp b n m p))).toNat ≤ 0 ∧ tkc b n m (tkp b n m (tkp b n m (tkp b n m p))) = 301 ∧ (1 ≤ tkv b n m (tkp b n m (tkp b n m (tkp b n m p))) ∧ tkv b n m (tkp b n m (tkp b n m (tkp b n m p))) ≤ 4) ∧ 4 < σ 3 (571 + tkv b n m (tkp b n m (tkp b n m p))).toNat + tkv b n m (tkp b n m (tkp b n m (tkp b n m p))) ∧ r = 0 ∧ σ' 0 15 = 5 ∧ σ' 0 16 = tka b n m (tkp b n m (tkp b n m (tkp b n m p)))) ∨ (tkc b n m (tkp b n m p) = 300 ∧ ¬ fnd (fun q => σ 5 (6 + q)) (σ 3 1).toNat (tkw b n m (tkp b n m p)) = -1 ∧ tkc b n m (tkp b n m (tkp b n m p)) = 301 ∧ tkv b n m (tkp b n m (tkp b n m p)) < σ 3 0 ∧ σ 3 (60 + 13 * fnd (fun q => σ 5 (6 + q)) (σ 3 1).toNat (tkw b n m (tkp b n m p)) + tkv b n m (tkp b n m (tkp b n m p))).toNat ≤ 0 ∧ tkc b n m (tkp b n m (tkp b n m (tkp b n m p))) = 301 ∧ (1 ≤ tkv b n m (tkp b n m (tkp b n m (tkp b n m p))) ∧ tkv b n m (tkp b n m (tkp b n m (tkp b n m p))) ≤ 4) ∧ σ 3 (571 + tkv b n m (tkp b n m (tkp b n m p))).toNat + tkv b n m (tkp b n m (tkp b n m (tkp b n m p))) ≤ 4 ∧ r = 1)) ∧ (r = 1 → RRs σ' b n m (tkp b n m (tkp b n m (tkp b n m (tkp b n m p)))) ∧ σ' 3 = up (up (σ 3) (571 + tkv b n m (tkp b n m (tkp b n m p))).toNat (σ 3 (571 + tkv b n m (tkp b n m (tkp b n m p))).toNat + tkv b n m (tkp b n m (tkp b n m (tkp b n m p))))) (60 + 13 * fnd (fun q => σ 5 (6 + q)) (σ 3 1).toNat (tkw b n m (tkp b n m p)) + tkv b n m (tkp b n m (tkp b n m p))).toNat (tkv b n m (tkp b n m (tkp b n m (tkp b n m p))))) ∧ σ' 5 = σ 5 ∧ σ' 0 20 = σ 0 20 ∧ σ' 0 21 = σ 0 21 ∧ σ' 0 22 = σ 0 22) → Q (some (xvi r)) σ') : xT kX11_line [xvr 0] σ Q := by
  refine ⟨Nat.le_of_ble_eq_true rfl, fun X hX => ?_⟩
  show X 0 [xvr 0] σ
  have hF : Fr [3, 5] [4, 11, 12, 13, 14, 15, 16, 17, 18, 20, 21, 22] σ σ := Fr.rf
  refine hX 400 0 _ _ ?_
  have hT := hp1
  have hmm := hT.hd0
  have hy := hp2
  obtain ⟨hb, hs, hm⟩ := id hp3
  have hR := hp4
  have hrw := hp5
  have hp4 : 0 ≤ σ 0 4 ∧ σ 0 4 ≤ n := by omega
  have hn9 : n ≤ 940 := hp0.2.2
  have hz3 : σ 3 = σ 3 := rfl
  have hz5 : σ 5 = σ 5 := rfl
  have hj := hp6
  refine s_isWordT (σ := σ) (j := 0) hR (by decide) (by decide +kernel) (fun r1 p1 => ?_)
  replace p1 : (r1 = 1 ∧ tkc b n m p = 0) ∨ (r1 = 0 ∧ ¬ tkc b n m p = 0) := p1
  refine And.intro (fun c2 => ?_) (fun c2 => ?_)
  · replace p1 : ¬ tkc b n m p = 0 := by
      rcases p1 with q | q
      · exact absurd q.1 (by omega)
      · exact q.2
    refine s_isWordT (σ := σ) (j := 1) hR (by decide) (by decide +kernel) (fun r3 p3 => ?_)
    replace p3 : (r3 = 1 ∧ tkc b n m p = 1) ∨ (r3 = 0 ∧ ¬ tkc b n m p = 1) := p3
    refine And.intro (fun c4 => ?_) (fun c4 => ?_)
    · replace p3 : ¬ tkc b n m p = 1 := by
        rcases p3 with q | q
        · exact absurd q.1 (by omega)
        · exact q.2
      refine s_isWordT (σ := σ) (j := 2) hR (by decide) (by decide +kernel) (fun r5 p5 => ?_)
      replace p5 : (r5 = 1 ∧ tkc b n m p = 2) ∨ (r5 = 0 ∧ ¬ tkc b n m p = 2) := p5
      refine And.intro (fun c6 => ?_) (fun c6 => ?_)
      · replace p5 : ¬ tkc b n m p = 2 := by
          rcases p5 with q | q
          · exact absurd q.1 (by omega)
          · exact q.2
        exfalso; omega
      · replace p5 : tkc b n m p = 2 := by
          rcases p5 with q | q
          · exact q.2
          · exact absurd q.1 (by omega)
        refine s_readHandF (σ := σ) hp0 hp1 hp2 hp3 hR hrw (fun r7 σ7 f7 p7 => ?_)
        have hF := hF.tr f7 (by decide) (by decide)
        refine And.intro rfl ?_
        refine And.intro (by omega) ?_
        exact hQ _ _ hF ⟨p7.1, p7.2, f7.1 5 (by decide) (by decide), f7.2 20 (by decide), f7.2 21 (by decide), f7.2 22 (by decide)⟩
    · replace p3 : tkc b n m p = 1 := by
        rcases p3 with q | q
        · exact q.2
        · exact absurd q.1 (by omega)
      exfalso; omega
  · replace p1 : tkc b n m p = 0 := by
      rcases p1 with q | q
      · exact q.2
      · exact absurd q.1 (by omega)
    exfalso; omega
set_option maxHeartbeats 4000000 in
set_option maxRecDepth 100000 in
theorem s_line_3 {b : Nat → Int} {n m p : Int} {σ : xS} {Q : Option xV → xS → Prop} (hp0 : 0 ≤ σ 0 4 ∧ σ 0 4 ≤ n ∧ n ≤ 940) (hp1 : TH (σ 3) (σ 0 20)) (hp2 : BYx b n) (hp3 : σ 1 = b ∧ σ 0 3 = n ∧ σ 0 5 = m) (hp4 : RRs σ b n m p) (hp5 : ∀ j : Nat, j < 19 → σ 6 j = R8.getD j 0) (hp6 : tkc b n m p = 3) (hQ : ∀ r : Int, ∀ σ' : xS, Fr [3, 5] [4, 11, 12, 13, 14, 15, 16, 17, 18, 20, 21, 22] σ σ' → ((∃ k : Nat, HGD b n m p (σ 3 0) (fun i => σ 3 (571 + i)) k ∧ ((¬ tkc b n m (hps b n m p k) = 301 ∧ (k = 0 ∨ ¬ tkc b n m (hps b n m p k) = 59) ∧ r = 0 ∧ σ' 0 15 = 1 ∧ σ' 0 16 = tka b n m (hps b n m p k)) ∨ (tkc b n m (hps b n m p k) = 301 ∧ ¬ (tkv b n m (hps b n m p k)) < σ 3 0 ∧ r = 0 ∧ σ' 0 15 = 2 ∧ σ' 0 16 = tka b n m (hps b n m p k)) ∨ (tkc b n m (hps b n m p k) = 301 ∧ (tkv b n m (hps b n m p k)) < σ 3 0 ∧ hpl b n m p (fun i => σ 3 (571 + i)) k (tkv b n m (hps b n m p k)).toNat = 4 ∧ r = 0 ∧ σ' 0 15 = 5 ∧ σ' 0 16 = tka b n m (hps b n m p k)) ∨ (0 < k ∧ tkc b n m (hps b n m p k) = 59 ∧ r = 1)) ∧ (r = 1 → RRs σ' b n m (hps b n m p k) ∧ REW b n m p (σ 3) (σ' 3) k ∧ σ' 5 = σ 5 ∧ TH (σ' 3) (σ' 0 20))) ∧ σ' 0 20 = σ 0 20 ∧ σ' 0 21 = σ 0 21 ∧ σ' 0 22 = σ 0 22) → Q (some (xvi r)) σ') : xT kX11_line [xvr 0] σ Q := by
  refine ⟨Nat.le_of_ble_eq_true rfl, fun X hX => ?_⟩
  show X 0 [xvr 0] σ
  have hF : Fr [3, 5] [4, 11, 12, 13, 14, 15, 16, 17, 18, 20, 21, 22] σ σ := Fr.rf
  refine hX 400 0 _ _ ?_
  have hT := hp1
  have hmm := hT.hd0
  have hy := hp2
  obtain ⟨hb, hs, hm⟩ := id hp3
  have hR := hp4
  have hrw := hp5
  have hp4 : 0 ≤ σ 0 4 ∧ σ 0 4 ≤ n := by omega
  have hn9 : n ≤ 940 := hp0.2.2
  have hz3 : σ 3 = σ 3 := rfl
  have hz5 : σ 5 = σ 5 := rfl
  have hj := hp6
  refine s_isWordT (σ := σ) (j := 0) hR (by decide) (by decide +kernel) (fun r1 p1 => ?_)
  replace p1 : (r1 = 1 ∧ tkc b n m p = 0) ∨ (r1 = 0 ∧ ¬ tkc b n m p = 0) := p1
  refine And.intro (fun c2 => ?_) (fun c2 => ?_)
  · replace p1 : ¬ tkc b n m p = 0 := by
      rcases p1 with q | q
      · exact absurd q.1 (by omega)
      · exact q.2
    refine s_isWordT (σ := σ) (j := 1) hR (by decide) (by decide +kernel) (fun r3 p3 => ?_)
    replace p3 : (r3 = 1 ∧ tkc b n m p = 1) ∨ (r3 = 0 ∧ ¬ tkc b n m p = 1) := p3
    refine And.intro (fun c4 => ?_) (fun c4 => ?_)
    · replace p3 : ¬ tkc b n m p = 1 := by
        rcases p3 with q | q
        · exact absurd q.1 (by omega)
        · exact q.2
      refine s_isWordT (σ := σ) (j := 2) hR (by decide) (by decide +kernel) (fun r5 p5 => ?_)
      replace p5 : (r5 = 1 ∧ tkc b n m p = 2) ∨ (r5 = 0 ∧ ¬ tkc b n m p = 2) := p5
      refine And.intro (fun c6 => ?_) (fun c6 => ?_)
      · replace p5 : ¬ tkc b n m p = 2 := by
          rcases p5 with q | q
          · exact absurd q.1 (by omega)
          · exact q.2
        refine s_isWordT (σ := σ) (j := 3) hR (by decide) (by decide +kernel) (fun r7 p7 => ?_)
        replace p7 : (r7 = 1 ∧ tkc b n m p = 3) ∨ (r7 = 0 ∧ ¬ tkc b n m p = 3) := p7
        refine And.intro (fun c8 => ?_) (fun c8 => ?_)
        · replace p7 : ¬ tkc b n m p = 3 := by
            rcases p7 with q | q
            · exact absurd q.1 (by omega)
            · exact q.2
          exfalso; omega
        · replace p7 : tkc b n m p = 3 := by
            rcases p7 with q | q
            · exact q.2
            · exact absurd q.1 (by omega)
          refine s_readHeapF (σ := σ) hp0 hp1 hp2 hp3 hR hrw (fun r9 σ9 f9 p9 => ?_)
          have hF := hF.tr f9 (by decide) (by decide)
          have hbl : r9 = 0 ∨ r9 = 1 := by
            obtain ⟨_, _, z, _⟩ := p9
            omega
          refine And.intro rfl ?_
          refine And.intro (by omega) ?_
          exact hQ _ _ hF ⟨p9, f9.2 20 (by decide), f9.2 21 (by decide), f9.2 22 (by decide)⟩
      · replace p5 : tkc b n m p = 2 := by
          rcases p5 with q | q
          · exact q.2
          · exact absurd q.1 (by omega)
        exfalso; omega
    · replace p3 : tkc b n m p = 1 := by
        rcases p3 with q | q
        · exact q.2
        · exact absurd q.1 (by omega)
      exfalso; omega
  · replace p1 : tkc b n m p = 0 := by
      rcases p1 with q | q
      · exact q.2
      · exact absurd q.1 (by omega)
    exfalso; omega

