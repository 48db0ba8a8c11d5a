theorem s_line_HL {b : Nat → Int} {n m : Int} {s : TSx} {σ : xS} {Q : Option xV → xS → Prop} (hn : n ≤ 940) (hy : BYx b n) (he : σ 1 = b ∧ σ 0 3 = n ∧ σ 0 5 = m) (hw : ∀ j : Nat, j < 19 → σ 6 j = R8.getD j 0) (hR : RTR σ b n m s) (hj : tkc b n m s.p = 2) (hQ : ∀ r : Int, ∀ σ' : xS, Fr [3, 5] [4, 11, 12, 13, 14, 15, 16, 17, 18, 20, 21, 22] σ σ' → LNR σ' b n m s r → Q (some (xvi r)) σ') : xT kX11_line [xvr 0] σ Q := by
  obtain ⟨⟨hD, p0, pn, hT⟩, ⟨a0, a1, a2, a3, a4, a5, a6⟩, ⟨b0, b1, b2⟩, c5, c7, c9, c1⟩ := hR
  have hmm := hT.hd0
  have y0 : σ 0 4 = tkp b n m s.p := hD.2.2.2.2.2.2
  have y1 := tkp_r (b := b) (n := n) (m := m) p0 pn
  have y2 := tkp_r (b := b) (n := n) (m := m) (p := tkp b n m s.p) (by omega) y1.2.1
  have y3 := tkp_r (b := b) (n := n) (m := m) (p := tkp b n m (tkp b n m s.p)) (by omega) y2.2.1
  have y4 := tkp_r (b := b) (n := n) (m := m) (p := tkp b n m (tkp b n m (tkp b n m s.p))) (by omega) y3.2.1
  refine s_line_2 (σ := σ) (b := b) (n := n) (m := m) (p := s.p) ⟨by omega, by omega, hn⟩ hT hy he hD hw hj (fun r σ' f h => hQ r σ' f ?_)
  unfold LNR
  obtain ⟨hA, hO, z5, z20, z21, z22⟩ := h
  have hfe := fnd_n (f := fun q => σ 5 (6 + q)) (g := s.nm) (n := σ 3 1) (w := tkw b n m (tkp b n m s.p)) (fun q hq => c5 q (by rw [← a1]; exact hq))
  rw [hfe, a1] at hA hO
  have hfr := fnd_r s.nm (tkw b n m (tkp b n m s.p)) s.ps.toNat
  have hv2 : tkc b n m (tkp b n m (tkp b n m s.p)) = 301 → 0 ≤ tkv b n m (tkp b n m (tkp b n m s.p)) := fun z => by
    have h := tk_N (b := b) (m := m) (p := tkp b n m (tkp b n m s.p)) (by omega) y2.2.1
    obtain ⟨r1, r2, r3⟩ := h.rg
    have c := tct_r (k := (nxt b n m (tkp b n m (tkp b n m s.p))).1) (v := (nxt b n m (tkp b n m (tkp b n m s.p))).2.1) (w := (nxt b n m (tkp b n m (tkp b n m s.p))).2.2.1) r1 r2
    unfold tkc at z
    exact (r3 (by omega)).1
  generalize hF : fnd s.nm s.ps.toNat (tkw b n m (tkp b n m s.p)) = F at *
  generalize hV : tkv b n m (tkp b n m (tkp b n m s.p)) = V at *
  have hh : ¬ F = -1 → tkc b n m (tkp b n m (tkp b n m s.p)) = 301 → V < σ 3 0 → (60 + 13 * F + V).toNat = 60 + (13 * F + V).toNat ∧ (13 * F + V).toNat < 78 ∧ σ 3 (60 + (13 * F + V).toNat) = s.hd (13 * F + V).toNat ∧ (571 + V).toNat = 571 + V.toNat ∧ V.toNat < 13 ∧ σ 3 (571 + V.toNat) = s.pl V.toNat := fun z1 z2 z3 => by
    have := hv2 z2
    have q1 : (13 * F + V).toNat < 78 := by omega
    have q2 : V.toNat < 13 := by omega
    exact ⟨by omega, q1, c7 _ q1, by omega, q2, c1 _ q2⟩
  rcases hA with h | h | h | h | h | h | h | h | h
  · have q : r = 0 ∧ σ' 0 15 = 1 ∧ σ' 0 16 = tka b n m (tkp b n m s.p) := by omega
    refine Or.inr ⟨q.1, ?_⟩
    rw [q.2.1, q.2.2]
    refine tst_l ?_
    rw [tln_H hj]
    exact tlH_0 (by omega)
  · have q : r = 0 ∧ σ' 0 15 = 3 ∧ σ' 0 16 = tka b n m (tkp b n m s.p) := by omega
    refine Or.inr ⟨q.1, ?_⟩
    rw [q.2.1, q.2.2]
    refine tst_l ?_
    rw [tln_H hj]
    exact tlH_1 (by omega) (by rw [hF]; omega)
  · have q : r = 0 ∧ σ' 0 15 = 1 ∧ σ' 0 16 = tka b n m (tkp b n m (tkp b n m s.p)) := by omega
    refine Or.inr ⟨q.1, ?_⟩
    rw [q.2.1, q.2.2]
    refine tst_l ?_
    rw [tln_H hj]
    exact tlH_2 (by omega) (by rw [hF]; omega) (by omega)
  · have q : r = 0 ∧ σ' 0 15 = 2 ∧ σ' 0 16 = tka b n m (tkp b n m (tkp b n m s.p)) := by omega
    refine Or.inr ⟨q.1, ?_⟩
    rw [q.2.1, q.2.2]
    refine tst_l ?_
    rw [tln_H hj]
    exact tlH_3 (by omega) (by rw [hF]; omega) (by omega) (by rw [hV]; omega)
  · have q : r = 0 ∧ σ' 0 15 = 3 ∧ σ' 0 16 = tka b n m (tkp b n m (tkp b n m s.p)) := by omega
    refine Or.inr ⟨q.1, ?_⟩
    rw [q.2.1, q.2.2]
    refine tst_l ?_
    rw [tln_H hj]
    obtain ⟨x1, x2, x3, x4, x5, x6⟩ := hh (by omega) (by omega) (by omega)
    rw [x1, x3] at h
    exact tlH_4 (by omega) (by rw [hF]; omega) (by omega) (by rw [hV]; omega) (by rw [hF, hV]; omega)
  · have q : r = 0 ∧ σ' 0 15 = 1 ∧ σ' 0 16 = tka b n m (tkp b n m (tkp b n m (tkp b n m s.p))) := by omega
    refine Or.inr ⟨q.1, ?_⟩
    rw [q.2.1, q.2.2]
    refine tst_l ?_
    rw [tln_H hj]
    obtain ⟨x1, x2, x3, x4, x5, x6⟩ := hh (by omega) (by omega) (by omega)
    rw [x1, x3] at h
    exact tlH_5 (by omega) (by rw [hF]; omega) (by omega) (by rw [hV]; omega) (by rw [hF, hV]; omega) (by omega)
  · have q : r = 0 ∧ σ' 0 15 = 2 ∧ σ' 0 16 = tka b n m (tkp b n m (tkp b n m (tkp b n m s.p))) := by omega
    refine Or.inr ⟨q.1, ?_⟩
    rw [q.2.1, q.2.2]
    refine tst_l ?_
    rw [tln_H hj]
    obtain ⟨x1, x2, x3, x4, x5, x6⟩ := hh (by omega) (by omega) (by omega)
    rw [x1, x3] at h
    exact tlH_6 (by omega) (by rw [hF]; omega) (by omega) (by rw [hV]; omega) (by rw [hF, hV]; omega) (by omega) (by omega)
  · have q : r = 0 ∧ σ' 0 15 = 5 ∧ σ' 0 16 = tka b n m (tkp b n m (tkp b n m (tkp b n m s.p))) := by omega
    refine Or.inr ⟨q.1, ?_⟩
    rw [q.2.1, q.2.2]
    refine tst_l ?_
    rw [tln_H hj]
    obtain ⟨x1, x2, x3, x4, x5, x6⟩ := hh (by omega) (by omega) (by omega)
    rw [x1, x3] at h
    rw [x4, x6] at h
    exact tlH_7 (by omega) (by rw [hF]; omega) (by omega) (by rw [hV]; omega) (by rw [hF, hV]; omega) (by omega) (by omega) (by rw [hV]; omega)
  · have q : r = 1 := by omega
    obtain ⟨x1, x2, x3, x4, x5, x6⟩ := hh (by omega) (by omega) (by omega)
    rw [x1, x3, x4, x6] at h
    have e2 := tlH_s (b := b) (n := n) (m := m) (s := s) (by omega) (by rw [hF]; omega) (by omega) (by rw [hV]; omega) (by rw [hF, hV]; omega) (by omega) (by omega) (by rw [hV]; omega)
    refine Or.inl ⟨q, _, (tln_H hj).trans e2, ?_⟩
    rw [hF, hV]
    obtain ⟨o1, o3⟩ := hO q
    rw [x1, x4, x6] at o3
    have hd0 : 0 ≤ s.hd (13 * F + V).toNat := by
      have z := hT.1.hand (p := F.toNat) (k := V.toNat) (by omega) (by have := hv2 (by omega); omega)
      unfold hd at z
      rw [show 60 + 13 * F.toNat + V.toNat = 60 + (13 * F + V).toNat from by have := hv2 (by omega); omega, x3] at z
      omega
    have kp : ∀ i, i ≠ 571 + V.toNat → i ≠ 60 + (13 * F + V).toNat → σ' 3 i = σ 3 i := fun i q1 q2 => by rw [o3, up_n q2, up_n q1]
    have hTH := hT.hand (p := F) (kd := V) (n := tkv b n m (tkp b n m (tkp b n m (tkp b n m s.p)))) (w := s.pl V.toNat + tkv b n m (tkp b n m (tkp b n m (tkp b n m s.p)))) (by omega) (by have := hv2 (by omega); omega) (by rw [x1, x3]; omega) (by omega) (by rw [x4, x6]) (by omega)
    rw [x1, x4] at hTH
    refine ⟨⟨o1, (show 0 ≤ (tkp b n m (tkp b n m (tkp b n m (tkp b n m s.p)))) from by omega), y4.2.1, by rw [o3, z20]; exact hTH⟩, ⟨(kp 0 (by omega) (by omega)).trans a0, (kp 1 (by omega) (by omega)).trans a1, (kp 2 (by omega) (by omega)).trans a2, (kp 3 (by omega) (by omega)).trans a3, z22.trans a4, z21.trans a5, (kp 7 (by omega) (by omega)).trans a6⟩, ⟨?_, b1, b2⟩, ?_, ?_, ?_, ?_⟩
    · show (σ' 0 20 = 1 ∧ 0 < s.kd) ∨ (σ' 0 20 = 0 ∧ s.kd = 0); omega
    · rw [z5]; exact c5
    · intro i hi
      show σ' 3 (60 + i) = up s.hd (13 * F + V).toNat (s.hd (13 * F + V).toNat + tkv b n m (tkp b n m (tkp b n m (tkp b n m s.p)))) i
      by_cases c : i = (13 * F + V).toNat
      · rw [c, o3, up_s, up_s]; omega
      · rw [up_n c, kp (60 + i) (by omega) (by omega)]; exact c7 i hi
    · intro i hi
      have hi : (i : Int) < s.hpn := hi
      exact (kp (8 + i) (by omega) (by omega)).trans (c9 i hi)
    · intro i hi
      show σ' 3 (571 + i) = up s.pl V.toNat (s.pl V.toNat + tkv b n m (tkp b n m (tkp b n m (tkp b n m s.p)))) i
      by_cases c : i = V.toNat
      · rw [c, o3, up_n (by omega), up_s, up_s]
      · rw [up_n c, kp (571 + i) (by omega) (by omega)]; exact c1 i hi
theorem s_line_EL {b : Nat → Int} {n m : Int} {s : TSx} {σ : xS} {Q : Option xV → xS → Prop} (hn : n ≤ 940) (hy : BYx b n) (he : σ 1 = b ∧ σ 0 3 = n ∧ σ 0 5 = m) (hw : ∀ j : Nat, j < 19 → σ 6 j = R8.getD j 0) (hR : RTR σ b n m s) (hj : tkc b n m s.p = 3) (hQ : ∀ r : Int, ∀ σ' : xS, Fr [3, 5] [4, 11, 12, 13, 14, 15, 16, 17, 18, 20, 21, 22] σ σ' → LNR σ' b n m s r → Q (some (xvi r)) σ') : xT kX11_line [xvr 0] σ Q := by
  obtain ⟨⟨hD, p0, pn, hT⟩, ⟨a0, a1, a2, a3, a4, a5, a6⟩, ⟨b0, b1, b2⟩, c5, c7, c9, c1⟩ := hR
  have hmm := hT.hd0
  have y0 : σ 0 4 = tkp b n m s.p := hD.2.2.2.2.2.2
  have y1 := tkp_r (b := b) (n := n) (m := m) p0 pn
  have y2 := tkp_r (b := b) (n := n) (m := m) (p := tkp b n m s.p) (by omega) y1.2.1
  have y3 := tkp_r (b := b) (n := n) (m := m) (p := tkp b n m (tkp b n m s.p)) (by omega) y2.2.1
  have y4 := tkp_r (b := b) (n := n) (m := m) (p := tkp b n m (tkp b n m (tkp b n m s.p))) (by omega) y3.2.1
  refine s_line_3 (σ := σ) (b := b) (n := n) (m := m) (p := s.p) ⟨by omega, by omega, hn⟩ hT hy he hD hw hj (fun r σ' f h => hQ r σ' f ?_)
  unfold LNR
  obtain ⟨⟨k, hk, hA, hO⟩, z20, z21, z22⟩ := h
  obtain ⟨g1, g2⟩ := hpl_c (kn := s.kd) (f := fun i => σ 3 (571 + i)) (f' := s.pl) (by omega) c1 k (by rw [← a0]; exact hk)
  have hpsr := hps_r (b := b) (m := m) p0 pn k
  have hvr : tkc b n m (hps b n m s.p k) = 301 → 0 ≤ tkv b n m (hps b n m s.p k) := fun z => by
    have h := tk_N (b := b) (m := m) hpsr.1 hpsr.2
    obtain ⟨r1, r2, r3⟩ := h.rg
    have c := tct_r (k := (nxt b n m (hps b n m s.p k)).1) (v := (nxt b n m (hps b n m s.p k)).2.1) (w := (nxt b n m (hps b n m s.p k)).2.2.1) r1 r2
    unfold tkc at z
    exact (r3 (by omega)).1
  rw [a0] at hA
  have hpe : tkc b n m (hps b n m s.p k) = 301 → tkv b n m (hps b n m s.p k) < s.kd → hpl b n m s.p (fun i => σ 3 (571 + i)) k (tkv b n m (hps b n m s.p k)).toNat = hpl b n m s.p s.pl k (tkv b n m (hps b n m s.p k)).toNat := fun z1 z2 => g1 _ (by have := hvr z1; omega)
  have hg : ¬ hgd b n m s.p s.kd s.pl k := by
    intro g
    obtain ⟨q1, q2, q3⟩ := g
    rcases hA with h | h | h | h
    · exact h.1 q1
    · exact h.2.1 q2.2
    · exact q3 ((hpe h.1 h.2.1).symm.trans h.2.2.1)
    · omega
  have e := hcn_e g2 hg
  rcases hA with h | h | h | h
  · refine Or.inr ⟨h.2.2.1, ?_⟩
    rw [h.2.2.2.1, h.2.2.2.2]
    by_cases k0 : k = 0
    · refine tst_l ?_
      rw [tln_E hj, tlE_0 (by rw [e]; exact ⟨k0, h.1⟩), e]
    · have e2 := tlE_s (b := b) (n := n) (m := m) (s := s) (by rw [e]; omega) (by rw [e]; exact fun z => h.1 z.1) (by rw [e]; exact fun z => h.1 z.1)
      rw [e] at e2
      exact tst_0 ((tln_E hj).trans e2) (by show ¬ tkc b n m (hps b n m s.p k) = 59; omega)
  · refine Or.inr ⟨h.2.2.1, ?_⟩
    rw [h.2.2.2.1, h.2.2.2.2]
    refine tst_l ?_
    rw [tln_E hj, tlE_1 (by rw [e]; omega) (by rw [e]; exact ⟨h.1, h.2.1⟩), e]
  · refine Or.inr ⟨h.2.2.2.1, ?_⟩
    rw [h.2.2.2.2.1, h.2.2.2.2.2]
    refine tst_l ?_
    rw [tln_E hj, tlE_2 (by rw [e]; omega) (by rw [e]; omega) (by rw [e]; exact ⟨h.1, (hpe h.1 h.2.1).symm.trans h.2.2.1⟩), e]
  · refine Or.inl ⟨h.2.2, ?_⟩
    have e2 := tlE_s (b := b) (n := n) (m := m) (s := s) (by rw [e]; omega) (by rw [e]; omega) (by rw [e]; omega)
    rw [e] at e2
    refine ⟨_, (tln_E hj).trans e2, ?_⟩
    obtain ⟨o1, ⟨w1, w2, w3, w4⟩, o5, oT⟩ := hO h.2.2
    refine ⟨⟨o1, hpsr.1, hpsr.2, oT⟩, ⟨(w4 0 (by decide) (by omega) (by omega)).trans a0, (w4 1 (by decide) (by omega) (by omega)).trans a1, (w4 2 (by decide) (by omega) (by omega)).trans a2, (w4 3 (by decide) (by omega) (by omega)).trans a3, z22.trans a4, z21.trans a5, by rw [w2, a6]⟩, ⟨?_, b1, b2⟩, ?_, ?_, ?_, ?_⟩
    · show (σ' 0 20 = 1 ∧ 0 < s.kd) ∨ (σ' 0 20 = 0 ∧ s.kd = 0); omega
    · rw [o5]; exact c5
    · exact fun i hi => (w4 (60 + i) (by omega) (by omega) (by omega)).trans (c7 i hi)
    · intro i hi
      have z52 := oT.hd0
      have hi : (i : Int) < s.hpn + (k : Int) := hi
      rw [w3 i (by omega), a6]; exact hhp_d c9 k i hi
    · exact fun i hi => (w1 i hi).trans (g1 i hi)
theorem s_line_AL {b : Nat → Int} {n m : Int} {s : TSx} {σ : xS} {Q : Option xV → xS → Prop} (hn : n ≤ 940) (hy : BYx b n) (he : σ 1 = b ∧ σ 0 3 = n ∧ σ 0 5 = m) (hw : ∀ j : Nat, j < 19 → σ 6 j = R8.getD j 0) (hR : RTR σ b n m s) (hj : tkc b n m s.p = 4) (hQ : ∀ r : Int, ∀ σ' : xS, Fr [3, 5] [4, 11, 12, 13, 14, 15, 16, 17, 18, 20, 21, 22] σ σ' → LNR σ' b n m s r → Q (some (xvi r)) σ') : xT kX11_line [xvr 0] σ Q := by
  obtain ⟨⟨hD, p0, pn, hT⟩, ⟨a0, a1, a2, a3, a4, a5, a6⟩, ⟨b0, b1, b2⟩, c5, c7, c9, c1⟩ := hR
  have hmm := hT.hd0
  have y0 : σ 0 4 = tkp b n m s.p := hD.2.2.2.2.2.2
  have y1 := tkp_r (b := b) (n := n) (m := m) p0 pn
  have y2 := tkp_r (b := b) (n := n) (m := m) (p := tkp b n m s.p) (by omega) y1.2.1
  have y3 := tkp_r (b := b) (n := n) (m := m) (p := tkp b n m (tkp b n m s.p)) (by omega) y2.2.1
  have y4 := tkp_r (b := b) (n := n) (m := m) (p := tkp b n m (tkp b n m (tkp b n m s.p))) (by omega) y3.2.1
  refine s_line_4 (σ := σ) (b := b) (n := n) (m := m) (p := s.p) ⟨by omega, by omega, hn⟩ hT hy he hD hw hj ⟨by omega, by omega, by omega⟩ (fun r σ' f h => hQ r σ' f ?_)
  unfold LNR
  obtain ⟨hA, hO⟩ := h
  rcases hA with h | h
  · have q : r = 0 ∧ σ' 0 15 = 3 ∧ σ' 0 16 = tka b n m s.p := by omega
    refine Or.inr ⟨q.1, ?_⟩
    rw [q.2.1, q.2.2]
    refine tst_l ?_
    rw [tln_A hj]
    exact tlA_0 (by omega)
  · have q : r = 1 := by omega
    refine Or.inl ⟨q, _, (tln_A hj).trans (tlA_s (by omega)), ?_⟩
    obtain ⟨o1, o3, o5, z20, z21, z22⟩ := hO q
    have kp : ∀ i, i ≠ 2 → σ' 3 i = σ 3 i := fun i q1 => by rw [o3, up_n q1]
    have kc : σ' 3 2 = _ := (congrFun o3 2).trans up_s
    refine ⟨⟨o1, (show 0 ≤ (tkp b n m s.p) from by omega), y1.2.1, by rw [o3, z20]; exact hT.k2⟩, ⟨(kp 0 (by decide)).trans a0, (kp 1 (by decide)).trans a1, kc, (kp 3 (by decide)).trans a3, z22.trans a4, z21, (kp 7 (by decide)).trans a6⟩, ⟨?_, Or.inr rfl, b2⟩, ?_, ?_, ?_, ?_⟩
    · show (σ' 0 20 = 1 ∧ 0 < s.kd) ∨ (σ' 0 20 = 0 ∧ s.kd = 0); omega
    · rw [o5]; exact c5
    · exact fun i hi => (kp (60 + i) (by omega)).trans (c7 i hi)
    · intro i hi
      have hi : (i : Int) < s.hpn := hi
      exact (kp (8 + i) (by omega)).trans (c9 i hi)
    · exact fun i hi => (kp (571 + i) (by omega)).trans (c1 i hi)
