theorem hhp_d {b f f' : Nat → Int} {n m p t : Int} (hf : ∀ i : Nat, (i : Int) < t → f i = f' i) : ∀ k : Nat, ∀ i : Nat, (i : Int) < t + (k : Int) → hhp b n m p f t k i = hhp b n m p f' t k i
  | 0, i, hi => hf i (by omega)
  | k + 1, i, hi => by
    show up (hhp b n m p f t k) (t + k).toNat (tkv b n m (hps b n m p k)) i = up (hhp b n m p f' t k) (t + k).toNat (tkv b n m (hps b n m p k)) i
    by_cases c : i = (t + (k : Int)).toNat
    · rw [c, up_s, up_s]
    · rw [up_n c, up_n c]; exact hhp_d hf k i (by omega)
theorem fnd_n {f g : Nat → Int} {n : Int} {w : Int} (h : ∀ q : Nat, (q : Int) < n → f q = g q) : fnd f n.toNat w = fnd g n.toNat w := fnd_c n.toNat (fun q hq => by rw [h q (by omega)])
/-- the reference between two lines is as s -/
def RTR (σ : xS) (b : Nat → Int) (n m : Int) (s : TSx) : Prop := (RRs σ b n m s.p ∧ 0 ≤ s.p ∧ s.p ≤ n ∧ TH (σ 3) (σ 0 20)) ∧ (σ 3 0 = s.kd ∧ σ 3 1 = s.ps ∧ σ 3 2 = s.ag ∧ σ 3 3 = s.rf ∧ σ 0 22 = s.rt ∧ σ 0 21 = s.ag ∧ σ 3 7 = s.hpn) ∧ (((σ 0 20 = 1 ∧ 0 < s.kd) ∨ (σ 0 20 = 0 ∧ s.kd = 0)) ∧ (s.ag = 0 ∨ s.ag = 1) ∧ (s.rt = 0 ∨ s.rt = 1)) ∧ (∀ q : Nat, (q : Int) < s.ps → σ 5 (6 + q) = s.nm q) ∧ (∀ i : Nat, i < 78 → σ 3 (60 + i) = s.hd i) ∧ (∀ i : Nat, (i : Int) < s.hpn → σ 3 (8 + i) = s.hp i) ∧ ∀ i : Nat, i < 13 → σ 3 (571 + i) = s.pl i
/-- what a line of the reference says -/
def LNR (σ : xS) (b : Nat → Int) (n m : Int) (s : TSx) (r : Int) : Prop := (r = 1 ∧ ∃ t, tln b n m s = .inr t ∧ RTR σ b n m t) ∨ (r = 0 ∧ tst b n m s = .inl (σ 0 15, σ 0 16))
theorem tst_l {b : Nat → Int} {n m : Int} {s : TSx} {x : Int × Int} (h : tln b n m s = .inl x) : tst b n m s = .inl x := by
  unfold tst
  rw [h]
theorem tst_1 {b : Nat → Int} {n m : Int} {s t : TSx} (h : tln b n m s = .inr t) (h2 : tkc b n m t.p = 59) : tst b n m s = .inr (t.wp (tkp b n m t.p)) := by
  unfold tst
  rw [h]
  exact if_pos h2
theorem tst_0 {b : Nat → Int} {n m : Int} {s t : TSx} (h : tln b n m s = .inr t) (h2 : ¬ tkc b n m t.p = 59) : tst b n m s = .inl (1, tka b n m t.p) := by
  unfold tst
  rw [h]
  exact if_neg h2
theorem s_line_KL {b : Nat → Int} {n m : Int} {s : TSx} {σ : xS} {Q : Option xV → xS → Prop} (hn : n ≤ 940) (hy : BYx b n) (he : σ 1 = b ∧ σ 0 3 = n ∧ σ 0 5 = m) (hw : ∀ j : Nat, j < 19 → σ 6 j = R8.getD j 0) (hR : RTR σ b n m s) (hj : tkc b n m s.p = 0) (hQ : ∀ r : Int, ∀ σ' : xS, Fr [3, 5] [4, 11, 12, 13, 14, 15, 16, 17, 18, 20, 21, 22] σ σ' → LNR σ' b n m s r → Q (some (xvi r)) σ') : xT kX11_line [xvr 0] σ Q := by
  obtain ⟨⟨hD, p0, pn, hT⟩, ⟨a0, a1, a2, a3, a4, a5, a6⟩, ⟨b0, b1, b2⟩, c5, c7, c9, c1⟩ := hR
  have hmm := hT.hd0
  have y0 : σ 0 4 = tkp b n m s.p := hD.2.2.2.2.2.2
  have y1 := tkp_r (b := b) (n := n) (m := m) p0 pn
  have y2 := tkp_r (b := b) (n := n) (m := m) (p := tkp b n m s.p) (by omega) y1.2.1
  have y3 := tkp_r (b := b) (n := n) (m := m) (p := tkp b n m (tkp b n m s.p)) (by omega) y2.2.1
  have y4 := tkp_r (b := b) (n := n) (m := m) (p := tkp b n m (tkp b n m (tkp b n m s.p))) (by omega) y3.2.1
  refine s_line_0 (σ := σ) (b := b) (n := n) (m := m) (p := s.p) ⟨by omega, by omega, hn⟩ hT hy he hD hw hj ⟨by omega, by omega, by omega⟩ (fun r σ' f h => hQ r σ' f ?_)
  unfold LNR
  obtain ⟨hA, hO⟩ := h
  rcases hA with h | h | h | h
  · have q : r = 0 ∧ σ' 0 15 = 3 ∧ σ' 0 16 = tka b n m s.p := by omega
    refine Or.inr ⟨q.1, ?_⟩
    rw [q.2.1, q.2.2]
    refine tst_l ?_
    rw [tln_K hj]
    exact tlK_0 (by omega)
  · have q : r = 0 ∧ σ' 0 15 = 1 ∧ σ' 0 16 = tka b n m (tkp b n m s.p) := by omega
    refine Or.inr ⟨q.1, ?_⟩
    rw [q.2.1, q.2.2]
    refine tst_l ?_
    rw [tln_K hj]
    exact tlK_1 (by omega) (by omega)
  · have q : r = 0 ∧ σ' 0 15 = 2 ∧ σ' 0 16 = tka b n m (tkp b n m s.p) := by omega
    refine Or.inr ⟨q.1, ?_⟩
    rw [q.2.1, q.2.2]
    refine tst_l ?_
    rw [tln_K hj]
    exact tlK_2 (by omega) (by omega) (by omega)
  · have q : r = 1 := by omega
    refine Or.inl ⟨q, _, (tln_K hj).trans (tlK_s (by omega) (by omega) (by omega)), ?_⟩
    obtain ⟨o1, o3, o5, z20, z21, z22⟩ := hO q
    have kp : ∀ i, i ≠ 0 → σ' 3 i = σ 3 i := fun i q1 => by rw [o3, up_n q1]
    have kc : σ' 3 0 = _ := (congrFun o3 0).trans up_s
    refine ⟨⟨o1, (show 0 ≤ (tkp b n m (tkp b n m s.p)) from by omega), y2.2.1, by rw [o3, z20]; exact ((hT.kk (k' := 1) (by decide)).k0 (hT.2.2 (by omega)) (by omega) (by decide))⟩, ⟨kc, (kp 1 (by decide)).trans a1, (kp 2 (by decide)).trans a2, (kp 3 (by decide)).trans a3, z22.trans a4, z21.trans a5, (kp 7 (by decide)).trans a6⟩, ⟨?_, b1, b2⟩, ?_, ?_, ?_, ?_⟩
    · exact Or.inl ⟨z20, by show 0 < tkv b n m (tkp b n m s.p); omega⟩
    · rw [o5]; exact c5
    · exact fun i hi => (kp (60 + i) (by omega)).trans (c7 i hi)
    · intro i hi
      have hi : (i : Int) < s.hpn := hi
      exact (kp (8 + i) (by omega)).trans (c9 i hi)
    · exact fun i hi => (kp (571 + i) (by omega)).trans (c1 i hi)
theorem s_line_PL {b : Nat → Int} {n m : Int} {s : TSx} {σ : xS} {Q : Option xV → xS → Prop} (hn : n ≤ 940) (hy : BYx b n) (he : σ 1 = b ∧ σ 0 3 = n ∧ σ 0 5 = m) (hw : ∀ j : Nat, j < 19 → σ 6 j = R8.getD j 0) (hR : RTR σ b n m s) (hj : tkc b n m s.p = 1) (hQ : ∀ r : Int, ∀ σ' : xS, Fr [3, 5] [4, 11, 12, 13, 14, 15, 16, 17, 18, 20, 21, 22] σ σ' → LNR σ' b n m s r → Q (some (xvi r)) σ') : xT kX11_line [xvr 0] σ Q := by
  obtain ⟨⟨hD, p0, pn, hT⟩, ⟨a0, a1, a2, a3, a4, a5, a6⟩, ⟨b0, b1, b2⟩, c5, c7, c9, c1⟩ := hR
  have hmm := hT.hd0
  have y0 : σ 0 4 = tkp b n m s.p := hD.2.2.2.2.2.2
  have y1 := tkp_r (b := b) (n := n) (m := m) p0 pn
  have y2 := tkp_r (b := b) (n := n) (m := m) (p := tkp b n m s.p) (by omega) y1.2.1
  have y3 := tkp_r (b := b) (n := n) (m := m) (p := tkp b n m (tkp b n m s.p)) (by omega) y2.2.1
  have y4 := tkp_r (b := b) (n := n) (m := m) (p := tkp b n m (tkp b n m (tkp b n m s.p))) (by omega) y3.2.1
  refine s_line_1 (σ := σ) (b := b) (n := n) (m := m) (p := s.p) ⟨by omega, by omega, hn⟩ hT hy he hD hw hj ⟨by omega, by omega, by omega⟩ (fun r σ' f h => hQ r σ' f ?_)
  unfold LNR
  obtain ⟨hA, hO⟩ := h
  have hfe := fnd_n (f := fun q => σ 5 (6 + q)) (g := s.nm) (n := σ 3 1) (w := tkw b n m (tkp b n m s.p)) (fun q hq => c5 q (by rw [← a1]; exact hq))
  rw [hfe, a1] at hA
  rcases hA with h | h | h | h
  · have q : r = 0 ∧ σ' 0 15 = 4 ∧ σ' 0 16 = tka b n m s.p := by omega
    refine Or.inr ⟨q.1, ?_⟩
    rw [q.2.1, q.2.2]
    refine tst_l ?_
    rw [tln_P hj]
    exact tlP_0 (by omega)
  · have q : r = 0 ∧ σ' 0 15 = 1 ∧ σ' 0 16 = tka b n m (tkp b n m s.p) := by omega
    refine Or.inr ⟨q.1, ?_⟩
    rw [q.2.1, q.2.2]
    refine tst_l ?_
    rw [tln_P hj]
    exact tlP_1 (by omega) (by omega)
  · have q : r = 0 ∧ σ' 0 15 = 3 ∧ σ' 0 16 = tka b n m (tkp b n m s.p) := by omega
    refine Or.inr ⟨q.1, ?_⟩
    rw [q.2.1, q.2.2]
    refine tst_l ?_
    rw [tln_P hj]
    exact tlP_2 (by omega) (by omega) (by omega)
  · have q : r = 1 := by omega
    refine Or.inl ⟨q, _, (tln_P hj).trans (tlP_s (by omega) (by omega) (by omega)), ?_⟩
    obtain ⟨o1, o3, o5, z20, z21, z22⟩ := hO q
    have kp : ∀ i, i ≠ 1 → σ' 3 i = σ 3 i := fun i q1 => by rw [o3, up_n q1]
    have kc : σ' 3 1 = _ := (congrFun o3 1).trans up_s
    refine ⟨⟨o1, (show 0 ≤ (tkp b n m (tkp b n m s.p)) from by omega), y2.2.1, by rw [o3, z20]; exact (hT.k1 (by omega) (by omega))⟩, ⟨(kp 0 (by decide)).trans a0, by rw [kc, a1], (kp 2 (by decide)).trans a2, (kp 3 (by decide)).trans a3, z22.trans a4, z21.trans a5, (kp 7 (by decide)).trans a6⟩, ⟨?_, b1, b2⟩, ?_, ?_, ?_, ?_⟩
    · show (σ' 0 20 = 1 ∧ 0 < s.kd) ∨ (σ' 0 20 = 0 ∧ s.kd = 0); omega
    · intro q hq
      have hq : (q : Int) < s.ps + 1 := hq
      rw [o5, a1]
      show up (σ 5) (6 + s.ps).toNat (tkw b n m (tkp b n m s.p)) (6 + q) = up s.nm s.ps.toNat (tkw b n m (tkp b n m s.p)) q
      by_cases c : q = s.ps.toNat
      · rw [c, up_s, show 6 + s.ps.toNat = (6 + s.ps).toNat from by omega, up_s]
      · rw [up_n c, up_n (by omega)]; exact c5 q (by omega)
    · exact fun i hi => (kp (60 + i) (by omega)).trans (c7 i hi)
    · intro i hi
      have hi : (i : Int) < s.hpn := hi
      exact (kp (8 + i) (by omega)).trans (c9 i hi)
    · exact fun i hi => (kp (571 + i) (by omega)).trans (c1 i hi)
