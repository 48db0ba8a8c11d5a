theorem s_line_RL {b : Nat → Int} {n m : Int} {s : TSx} {σ : xS} {Q : Option xV → xS → Prop} (hn : n ≤ 940) (hy : BYx b n) (he : σ 1 = b ∧ σ 0 3 = n ∧ σ 0 5 = m) (hw : ∀ j : Nat, j < 19 → σ 6 j = R8.getD j 0) (hR : RTR σ b n m s) (hj : tkc b n m s.p = 5) (hQ : ∀ r : Int, ∀ σ' : xS, Fr [3, 5] [4, 11, 12, 13, 14, 15, 16, 17, 18, 20, 21, 22] σ σ' → LNR σ' b n m s r → Q (some (xvi r)) σ') : xT kX11_line [xvr 0] σ Q := by
  obtain ⟨⟨hD, p0, pn, hT⟩, ⟨a0, a1, a2, a3, a4, a5, a6⟩, ⟨b0, b1, b2⟩, c5, c7, c9, c1⟩ := hR
  have hmm := hT.hd0
  have y0 : σ 0 4 = tkp b n m s.p := hD.2.2.2.2.2.2
  have y1 := tkp_r (b := b) (n := n) (m := m) p0 pn
  have y2 := tkp_r (b := b) (n := n) (m := m) (p := tkp b n m s.p) (by omega) y1.2.1
  have y3 := tkp_r (b := b) (n := n) (m := m) (p := tkp b n m (tkp b n m s.p)) (by omega) y2.2.1
  have y4 := tkp_r (b := b) (n := n) (m := m) (p := tkp b n m (tkp b n m (tkp b n m s.p))) (by omega) y3.2.1
  refine s_line_5 (σ := σ) (b := b) (n := n) (m := m) (p := s.p) ⟨by omega, by omega, hn⟩ hT hy he hD hw hj ⟨by omega, by omega, by omega⟩ (fun r σ' f h => hQ r σ' f ?_)
  unfold LNR
  obtain ⟨hA, hO⟩ := h
  rcases hA with h | h | h | h
  · have q : r = 0 ∧ σ' 0 15 = 3 ∧ σ' 0 16 = tka b n m s.p := by omega
    refine Or.inr ⟨q.1, ?_⟩
    rw [q.2.1, q.2.2]
    refine tst_l ?_
    rw [tln_R hj]
    exact tlR_0 (by omega)
  · have q : r = 0 ∧ σ' 0 15 = 1 ∧ σ' 0 16 = tka b n m (tkp b n m s.p) := by omega
    refine Or.inr ⟨q.1, ?_⟩
    rw [q.2.1, q.2.2]
    refine tst_l ?_
    rw [tln_R hj]
    exact tlR_1 (by omega) (by omega)
  · have q : r = 0 ∧ σ' 0 15 = 2 ∧ σ' 0 16 = tka b n m (tkp b n m s.p) := by omega
    refine Or.inr ⟨q.1, ?_⟩
    rw [q.2.1, q.2.2]
    refine tst_l ?_
    rw [tln_R hj]
    exact tlR_2 (by omega) (by omega) (by omega)
  · have q : r = 1 := by omega
    refine Or.inl ⟨q, _, (tln_R hj).trans (tlR_s (by omega) (by omega) (by omega)), ?_⟩
    obtain ⟨o1, o3, o5, z20, z21, z22⟩ := hO q
    have kp : ∀ i, i ≠ 3 → σ' 3 i = σ 3 i := fun i q1 => by rw [o3, up_n q1]
    have kc : σ' 3 3 = _ := (congrFun o3 3).trans up_s
    refine ⟨⟨o1, (show 0 ≤ (tkp b n m (tkp b n m s.p)) from by omega), y2.2.1, by rw [o3, z20]; exact (hT.k3 (by omega))⟩, ⟨(kp 0 (by decide)).trans a0, (kp 1 (by decide)).trans a1, (kp 2 (by decide)).trans a2, kc, z22, z21.trans a5, (kp 7 (by decide)).trans a6⟩, ⟨?_, b1, Or.inr rfl⟩, ?_, ?_, ?_, ?_⟩
    · show (σ' 0 20 = 1 ∧ 0 < s.kd) ∨ (σ' 0 20 = 0 ∧ s.kd = 0); omega
    · rw [o5]; exact c5
    · exact fun i hi => (kp (60 + i) (by omega)).trans (c7 i hi)
    · intro i hi
      have hi : (i : Int) < s.hpn := hi
      exact (kp (8 + i) (by omega)).trans (c9 i hi)
    · exact fun i hi => (kp (571 + i) (by omega)).trans (c1 i hi)
theorem s_line_xL {b : Nat → Int} {n m : Int} {s : TSx} {σ : xS} {Q : Option xV → xS → Prop} (hn : n ≤ 940) (hy : BYx b n) (he : σ 1 = b ∧ σ 0 3 = n ∧ σ 0 5 = m) (hw : ∀ j : Nat, j < 19 → σ 6 j = R8.getD j 0) (hR : RTR σ b n m s) (hj : tkc b n m s.p < 0 ∨ 5 < tkc b n m s.p) (hQ : ∀ r : Int, ∀ σ' : xS, Fr [3, 5] [4, 11, 12, 13, 14, 15, 16, 17, 18, 20, 21, 22] σ σ' → LNR σ' b n m s r → Q (some (xvi r)) σ') : xT kX11_line [xvr 0] σ Q := by
  obtain ⟨⟨hD, p0, pn, hT⟩, _⟩ := hR
  have y0 : σ 0 4 = tkp b n m s.p := hD.2.2.2.2.2.2
  have y1 := tkp_r (b := b) (n := n) (m := m) p0 pn
  refine s_line_x (σ := σ) (b := b) (n := n) (m := m) (p := s.p) ⟨by omega, by omega, hn⟩ hT hy he hD hw hj (fun r σ' f h => hQ r σ' f ?_)
  refine Or.inr ⟨h.1, ?_⟩
  rw [h.2.1, h.2.2]
  exact tst_l (tln_x hj)
/-- a line of the reference -/
theorem s_lineF {b : Nat → Int} {n m : Int} {s : TSx} {σ : xS} {Q : Option xV → xS → Prop} (hn : n ≤ 940) (hy : BYx b n) (he : σ 1 = b ∧ σ 0 3 = n ∧ σ 0 5 = m) (hw : ∀ j : Nat, j < 19 → σ 6 j = R8.getD j 0) (hR : RTR σ b n m s) (hQ : ∀ r : Int, ∀ σ' : xS, Fr [3, 5] [4, 11, 12, 13, 14, 15, 16, 17, 18, 20, 21, 22] σ σ' → LNR σ' b n m s r → Q (some (xvi r)) σ') : xT kX11_line [xvr 0] σ Q := by
  by_cases h0 : tkc b n m s.p = 0
  · exact s_line_KL hn hy he hw hR h0 hQ
  by_cases h1 : tkc b n m s.p = 1
  · exact s_line_PL hn hy he hw hR h1 hQ
  by_cases h2 : tkc b n m s.p = 2
  · exact s_line_HL hn hy he hw hR h2 hQ
  by_cases h3 : tkc b n m s.p = 3
  · exact s_line_EL hn hy he hw hR h3 hQ
  by_cases h4 : tkc b n m s.p = 4
  · exact s_line_AL hn hy he hw hR h4 hQ
  by_cases h5 : tkc b n m s.p = 5
  · exact s_line_RL hn hy he hw hR h5 hQ
  exact s_line_xL hn hy he hw hR (by omega) hQ

