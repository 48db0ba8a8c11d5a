theorem tlP_2 {b : Nat → Int} {n m : Int} {s : TSx} (h0 : ¬ (s.ps = 6)) (h1 : ¬ (¬ tkc b n m (tkp b n m s.p) = 300)) (h2 : ¬ fnd s.nm s.ps.toNat (tkw b n m (tkp b n m s.p)) = -1) : tlP b n m s = .inl (3, tka b n m (tkp b n m s.p)) := by
  unfold tlP
  rw [if_neg h0, if_neg h1, if_pos h2]
theorem tlP_s {b : Nat → Int} {n m : Int} {s : TSx} (h0 : ¬ (s.ps = 6)) (h1 : ¬ (¬ tkc b n m (tkp b n m s.p) = 300)) (h2 : ¬ (¬ fnd s.nm s.ps.toNat (tkw b n m (tkp b n m s.p)) = -1)) : tlP b n m s = .inr (tsx ((tkp b n m (tkp b n m s.p))) s.kd (s.ps + 1) s.ag s.rf s.rt s.hpn (up s.nm s.ps.toNat (tkw b n m (tkp b n m s.p))) s.hd s.hp s.pl) := by
  unfold tlP
  rw [if_neg h0, if_neg h1, if_neg h2]
theorem tlH_0 {b : Nat → Int} {n m : Int} {s : TSx}  (h0 : ¬ tkc b n m (tkp b n m s.p) = 300) : tlH b n m s = .inl (1, tka b n m (tkp b n m s.p)) := by
  unfold tlH
  rw [if_pos h0]
theorem tlH_1 {b : Nat → Int} {n m : Int} {s : TSx} (h0 : ¬ (¬ tkc b n m (tkp b n m s.p) = 300)) (h1 : fnd s.nm s.ps.toNat (tkw b n m (tkp b n m s.p)) = -1) : tlH b n m s = .inl (3, tka b n m (tkp b n m s.p)) := by
  unfold tlH
  rw [if_neg h0, if_pos h1]
theorem tlH_2 {b : Nat → Int} {n m : Int} {s : TSx} (h0 : ¬ (¬ tkc b n m (tkp b n m s.p) = 300)) (h1 : ¬ (fnd s.nm s.ps.toNat (tkw b n m (tkp b n m s.p)) = -1)) (h2 : ¬ tkc b n m (tkp b n m (tkp b n m s.p)) = 301) : tlH b n m s = .inl (1, tka b n m (tkp b n m (tkp b n m s.p))) := by
  unfold tlH
  rw [if_neg h0, if_neg h1, if_pos h2]
theorem tlH_3 {b : Nat → Int} {n m : Int} {s : TSx} (h0 : ¬ (¬ tkc b n m (tkp b n m s.p) = 300)) (h1 : ¬ (fnd s.nm s.ps.toNat (tkw b n m (tkp b n m s.p)) = -1)) (h2 : ¬ (¬ tkc b n m (tkp b n m (tkp b n m s.p)) = 301)) (h3 : ¬ tkv b n m (tkp b n m (tkp b n m s.p)) < s.kd) : tlH b n m s = .inl (2, tka b n m (tkp b n m (tkp b n m s.p))) := by
  unfold tlH
  rw [if_neg h0, if_neg h1, if_neg h2, if_pos h3]
theorem tlH_4 {b : Nat → Int} {n m : Int} {s : TSx} (h0 : ¬ (¬ tkc b n m (tkp b n m s.p) = 300)) (h1 : ¬ (fnd s.nm s.ps.toNat (tkw b n m (tkp b n m s.p)) = -1)) (h2 : ¬ (¬ tkc b n m (tkp b n m (tkp b n m s.p)) = 301)) (h3 : ¬ (¬ tkv b n m (tkp b n m (tkp b n m s.p)) < s.kd)) (h4 : 0 < s.hd (13 * fnd s.nm s.ps.toNat (tkw b n m (tkp b n m s.p)) + tkv b n m (tkp b n m (tkp b n m s.p))).toNat) : tlH b n m s = .inl (3, tka b n m (tkp b n m (tkp b n m s.p))) := by
  unfold tlH
  rw [if_neg h0, if_neg h1, if_neg h2, if_neg h3, if_pos h4]
theorem tlH_5 {b : Nat → Int} {n m : Int} {s : TSx} (h0 : ¬ (¬ tkc b n m (tkp b n m s.p) = 300)) (h1 : ¬ (fnd s.nm s.ps.toNat (tkw b n m (tkp b n m s.p)) = -1)) (h2 : ¬ (¬ tkc b n m (tkp b n m (tkp b n m s.p)) = 301)) (h3 : ¬ (¬ tkv b n m (tkp b n m (tkp b n m s.p)) < s.kd)) (h4 : ¬ (0 < s.hd (13 * fnd s.nm s.ps.toNat (tkw b n m (tkp b n m s.p)) + tkv b n m (tkp b n m (tkp b n m s.p))).toNat)) (h5 : ¬ tkc b n m (tkp b n m (tkp b n m (tkp b n m s.p))) = 301) : tlH b n m s = .inl (1, tka b n m (tkp b n m (tkp b n m (tkp b n m s.p)))) := by
  unfold tlH
  rw [if_neg h0, if_neg h1, if_neg h2, if_neg h3, if_neg h4, if_pos h5]
theorem tlH_6 {b : Nat → Int} {n m : Int} {s : TSx} (h0 : ¬ (¬ tkc b n m (tkp b n m s.p) = 300)) (h1 : ¬ (fnd s.nm s.ps.toNat (tkw b n m (tkp b n m s.p)) = -1)) (h2 : ¬ (¬ tkc b n m (tkp b n m (tkp b n m s.p)) = 301)) (h3 : ¬ (¬ tkv b n m (tkp b n m (tkp b n m s.p)) < s.kd)) (h4 : ¬ (0 < s.hd (13 * fnd s.nm s.ps.toNat (tkw b n m (tkp b n m s.p)) + tkv b n m (tkp b n m (tkp b n m s.p))).toNat)) (h5 : ¬ (¬ tkc b n m (tkp b n m (tkp b n m (tkp b n m s.p))) = 301)) (h6 : ¬ (1 ≤ tkv b n m (tkp b n m (tkp b n m (tkp b n m s.p))) ∧ tkv b n m (tkp b n m (tkp b n m (tkp b n m s.p))) ≤ 4)) : tlH b n m s = .inl (2, tka b n m (tkp b n m (tkp b n m (tkp b n m s.p)))) := by
  unfold tlH
  rw [if_neg h0, if_neg h1, if_neg h2, if_neg h3, if_neg h4, if_neg h5, if_pos h6]
theorem tlH_7 {b : Nat → Int} {n m : Int} {s : TSx} (h0 : ¬ (¬ tkc b n m (tkp b n m s.p) = 300)) (h1 : ¬ (fnd s.nm s.ps.toNat (tkw b n m (tkp b n m s.p)) = -1)) (h2 : ¬ (¬ tkc b n m (tkp b n m (tkp b n m s.p)) = 301)) (h3 : ¬ (¬ tkv b n m (tkp b n m (tkp b n m s.p)) < s.kd)) (h4 : ¬ (0 < s.hd (13 * fnd s.nm s.ps.toNat (tkw b n m (tkp b n m s.p)) + tkv b n m (tkp b n m (tkp b n m s.p))).toNat)) (h5 : ¬ (¬ tkc b n m (tkp b n m (tkp b n m (tkp b n m s.p))) = 301)) (h6 : ¬ (¬ (1 ≤ tkv b n m (tkp b n m (tkp b n m (tkp b n m s.p))) ∧ tkv b n m (tkp b n m (tkp b n m (tkp b n m s.p))) ≤ 4))) (h7 : 4 < s.pl (tkv b n m (tkp b n m (tkp b n m s.p))).toNat + tkv b n m (tkp b n m (tkp b n m (tkp b n m s.p)))) : tlH b n m s = .inl (5, tka b n m (tkp b n m (tkp b n m (tkp b n m s.p)))) := by
  unfold tlH
  rw [if_neg h0, if_neg h1, if_neg h2, if_neg h3, if_neg h4, if_neg h5, if_neg h6, if_pos h7]
theorem tlH_s {b : Nat → Int} {n m : Int} {s : TSx} (h0 : ¬ (¬ tkc b n m (tkp b n m s.p) = 300)) (h1 : ¬ (fnd s.nm s.ps.toNat (tkw b n m (tkp b n m s.p)) = -1)) (h2 : ¬ (¬ tkc b n m (tkp b n m (tkp b n m s.p)) = 301)) (h3 : ¬ (¬ tkv b n m (tkp b n m (tkp b n m s.p)) < s.kd)) (h4 : ¬ (0 < s.hd (13 * fnd s.nm s.ps.toNat (tkw b n m (tkp b n m s.p)) + tkv b n m (tkp b n m (tkp b n m s.p))).toNat)) (h5 : ¬ (¬ tkc b n m (tkp b n m (tkp b n m (tkp b n m s.p))) = 301)) (h6 : ¬ (¬ (1 ≤ tkv b n m (tkp b n m (tkp b n m (tkp b n m s.p))) ∧ tkv b n m (tkp b n m (tkp b n m (tkp b n m s.p))) ≤ 4))) (h7 : ¬ (4 < s.pl (tkv b n m (tkp b n m (tkp b n m s.p))).toNat + tkv b n m (tkp b n m (tkp b n m (tkp b n m s.p))))) : tlH b n m s = .inr (tsx ((tkp b n m (tkp b n m (tkp b n m (tkp b n m s.p))))) s.kd s.ps s.ag s.rf s.rt s.hpn s.nm (up s.hd (13 * fnd s.nm s.ps.toNat (tkw b n m (tkp b n m s.p)) + tkv b n m (tkp b n m (tkp b n m s.p))).toNat (s.hd (13 * fnd s.nm s.ps.toNat (tkw b n m (tkp b n m s.p)) + tkv b n m (tkp b n m (tkp b n m s.p))).toNat + tkv b n m (tkp b n m (tkp b n m (tkp b n m s.p))))) s.hp (up s.pl (tkv b n m (tkp b n m (tkp b n m s.p))).toNat (s.pl (tkv b n m (tkp b n m (tkp b n m s.p))).toNat + tkv b n m (tkp b n m (tkp b n m (tkp b n m s.p)))))) := by
  unfold tlH
  rw [if_neg h0, if_neg h1, if_neg h2, if_neg h3, if_neg h4, if_neg h5, if_neg h6, if_neg h7]
theorem tlE_0 {b : Nat → Int} {n m : Int} {s : TSx}  (h0 : (hcn b n m s.p s.kd s.pl) = 0 ∧ ¬ tkc b n m (hps b n m s.p (hcn b n m s.p s.kd s.pl)) = 301) : tlE b n m s = .inl (1, tka b n m (hps b n m s.p (hcn b n m s.p s.kd s.pl))) := by
  unfold tlE
  rw [if_pos h0]
theorem tlE_1 {b : Nat → Int} {n m : Int} {s : TSx} (h0 : ¬ ((hcn b n m s.p s.kd s.pl) = 0 ∧ ¬ tkc b n m (hps b n m s.p (hcn b n m s.p s.kd s.pl)) = 301)) (h1 : tkc b n m (hps b n m s.p (hcn b n m s.p s.kd s.pl)) = 301 ∧ ¬ tkv b n m (hps b n m s.p (hcn b n m s.p s.kd s.pl)) < s.kd) : tlE b n m s = .inl (2, tka b n m (hps b n m s.p (hcn b n m s.p s.kd s.pl))) := by
  unfold tlE
  rw [if_neg h0, if_pos h1]
theorem tlE_2 {b : Nat → Int} {n m : Int} {s : TSx} (h0 : ¬ ((hcn b n m s.p s.kd s.pl) = 0 ∧ ¬ tkc b n m (hps b n m s.p (hcn b n m s.p s.kd s.pl)) = 301)) (h1 : ¬ (tkc b n m (hps b n m s.p (hcn b n m s.p s.kd s.pl)) = 301 ∧ ¬ tkv b n m (hps b n m s.p (hcn b n m s.p s.kd s.pl)) < s.kd)) (h2 : tkc b n m (hps b n m s.p (hcn b n m s.p s.kd s.pl)) = 301 ∧ hpl b n m s.p s.pl (hcn b n m s.p s.kd s.pl) (tkv b n m (hps b n m s.p (hcn b n m s.p s.kd s.pl))).toNat = 4) : tlE b n m s = .inl (5, tka b n m (hps b n m s.p (hcn b n m s.p s.kd s.pl))) := by
  unfold tlE
  rw [if_neg h0, if_neg h1, if_pos h2]
theorem tlE_s {b : Nat → Int} {n m : Int} {s : TSx} (h0 : ¬ ((hcn b n m s.p s.kd s.pl) = 0 ∧ ¬ tkc b n m (hps b n m s.p (hcn b n m s.p s.kd s.pl)) = 301)) (h1 : ¬ (tkc b n m (hps b n m s.p (hcn b n m s.p s.kd s.pl)) = 301 ∧ ¬ tkv b n m (hps b n m s.p (hcn b n m s.p s.kd s.pl)) < s.kd)) (h2 : ¬ (tkc b n m (hps b n m s.p (hcn b n m s.p s.kd s.pl)) = 301 ∧ hpl b n m s.p s.pl (hcn b n m s.p s.kd s.pl) (tkv b n m (hps b n m s.p (hcn b n m s.p s.kd s.pl))).toNat = 4)) : tlE b n m s = .inr (tsx ((hps b n m s.p (hcn b n m s.p s.kd s.pl))) s.kd s.ps s.ag s.rf s.rt (s.hpn + ((hcn b n m s.p s.kd s.pl) : Nat)) s.nm s.hd (hhp b n m s.p s.hp s.hpn (hcn b n m s.p s.kd s.pl)) (hpl b n m s.p s.pl (hcn b n m s.p s.kd s.pl))) := by
  unfold tlE
  rw [if_neg h0, if_neg h1, if_neg h2]
theorem tlA_0 {b : Nat → Int} {n m : Int} {s : TSx}  (h0 : ¬ s.ag = 0) : tlA b n m s = .inl (3, tka b n m s.p) := by
  unfold tlA
  rw [if_pos h0]
theorem tlA_s {b : Nat → Int} {n m : Int} {s : TSx} (h0 : ¬ (¬ s.ag = 0)) : tlA b n m s = .inr (tsx ((tkp b n m s.p)) s.kd s.ps (1) s.rf s.rt s.hpn s.nm s.hd s.hp s.pl) := by
  unfold tlA
  rw [if_neg h0]
theorem tlR_0 {b : Nat → Int} {n m : Int} {s : TSx}  (h0 : ¬ s.rt = 0) : tlR b n m s = .inl (3, tka b n m s.p) := by
  unfold tlR
  rw [if_pos h0]
theorem tlR_1 {b : Nat → Int} {n m : Int} {s : TSx} (h0 : ¬ (¬ s.rt = 0)) (h1 : ¬ tkc b n m (tkp b n m s.p) = 301) : tlR b n m s = .inl (1, tka b n m (tkp b n m s.p)) := by
  unfold tlR
  rw [if_neg h0, if_pos h1]
theorem tlR_2 {b : Nat → Int} {n m : Int} {s : TSx} (h0 : ¬ (¬ s.rt = 0)) (h1 : ¬ (¬ tkc b n m (tkp b n m s.p) = 301)) (h2 : ¬ (0 ≤ tkv b n m (tkp b n m s.p) ∧ tkv b n m (tkp b n m s.p) ≤ 9)) : tlR b n m s = .inl (2, tka b n m (tkp b n m s.p)) := by
  unfold tlR
  rw [if_neg h0, if_neg h1, if_pos h2]
theorem tlR_s {b : Nat → Int} {n m : Int} {s : TSx} (h0 : ¬ (¬ s.rt = 0)) (h1 : ¬ (¬ tkc b n m (tkp b n m s.p) = 301)) (h2 : ¬ (¬ (0 ≤ tkv b n m (tkp b n m s.p) ∧ tkv b n m (tkp b n m s.p) ≤ 9))) : tlR b n m s = .inr (tsx ((tkp b n m (tkp b n m s.p))) s.kd s.ps s.ag (tkv b n m (tkp b n m s.p)) (1) s.hpn s.nm s.hd s.hp s.pl) := by
  unfold tlR
  rw [if_neg h0, if_neg h1, if_neg h2]
/-- the class's Game and Reader between two lines are as s -/
def RTC (σ : xS) (b : Nat → Int) (n m : Int) (s : TSx) : Prop := RDt σ b n m s.p ∧ (σ 5 0 = s.kd ∧ σ 5 1 = s.ps ∧ σ 5 2 = s.ag ∧ σ 5 3 = s.rf ∧ σ 0 2 = s.rt ∧ σ 5 8 = 0 ∧ σ 5 9 = s.hpn) ∧ NMR (σ 6) s.nm s.ps ∧ σ 7 = s.hd ∧ σ 9 = s.hp ∧ σ 1 = s.pl
/-- what a line of the class says -/
def LNC (σ : xS) (b : Nat → Int) (n m : Int) (s : TSx) (r : Int) : Prop := (r = 1 ∧ ∃ t, tln b n m s = .inr t ∧ RTC σ b n m t) ∨ (r = 0 ∧ tln b n m s = .inl (σ 2 9, σ 2 10))
theorem sX9_readKindsL {b : Nat → Int} {n m : Int} {s : TSx} {σ : xS} {Q : Option xV → xS → Prop} (hp0 : TG σ) (hp1 : 0 ≤ σ 2 4 ∧ σ 2 4 ≤ σ 2 2 ∧ σ 2 2 ≤ 940) (hR : RTC σ b n m s) (hj : tkc b n m s.p = 0) (hQ : ∀ r : Int, ∀ σ' : xS, Fr [1, 2, 5, 6, 7, 8, 9] [2] σ σ' → TG σ' ∧ (0 ≤ σ' 2 4 ∧ σ' 2 4 ≤ σ' 2 2 ∧ σ' 2 2 ≤ 940) ∧ (r = 0 ∨ r = 1) ∧ LNC σ' b n m s r → Q (some (xvi r)) σ') : xT kX9_readKinds [xvr 0, xvr 5] σ Q := by
  obtain ⟨hD, ⟨a0, a1, a2, a3, a4, a5, a6⟩, hN, a7, a8, a9⟩ := hR
  refine sX9_readKindsF (nmR := s.nm) hp0 hp1 hD (fun r σ' f h => hQ r σ' (Fr.rf.tr f (by decide) (by decide)) ?_)
  obtain ⟨h1, h2, h3, hA, hO⟩ := h
  refine ⟨h1, h2, h3, ?_⟩
  unfold LNC
  rw [tln_K hj]
  rw [a0] at hA
  rcases hA with h | h | h | h
  · have q : r = 0 ∧ σ' 2 9 = 3 ∧ σ' 2 10 = tka b n m s.p := by omega
    refine Or.inr ⟨q.1, ?_⟩
    rw [tlK_0 (by omega), q.2.1, q.2.2]
  · have q : r = 0 ∧ σ' 2 9 = 1 ∧ σ' 2 10 = tka b n m (tkp b n m s.p) := by omega
    refine Or.inr ⟨q.1, ?_⟩
    rw [tlK_1 (by omega) (by omega), q.2.1, q.2.2]
  · have q : r = 0 ∧ σ' 2 9 = 2 ∧ σ' 2 10 = tka b n m (tkp b n m s.p) := by omega
    refine Or.inr ⟨q.1, ?_⟩
    rw [tlK_2 (by omega) (by omega) (by omega), q.2.1, q.2.2]
  · have q : r = 1 := by omega
    refine Or.inl ⟨q, _, tlK_s (by omega) (by omega) (by omega), ?_⟩
    obtain ⟨o1, o3⟩ := hO q
    have e1 := f.1 1 (by decide) (by decide); have e6 := f.1 6 (by decide) (by decide); have e7 := f.1 7 (by decide) (by decide); have e9 := f.1 9 (by decide) (by decide)
    have o7 : σ' 0 2 = σ 0 2 := f.2 2 (by decide)
    exact ⟨o1, ⟨by rw [o3, up_s], by rw [o3]; exact (up_n (by decide)).trans a1, by rw [o3]; exact (up_n (by decide)).trans a2, by rw [o3]; exact (up_n (by decide)).trans a3, o7.trans a4, by rw [o3]; exact (up_n (by decide)).trans a5, by rw [o3]; exact (up_n (by decide)).trans a6⟩, by rw [e6]; exact hN, e7.trans a7, e9.trans a8, e1.trans a9⟩
theorem sX9_readPersonL {b : Nat → Int} {n m : Int} {s : TSx} {σ : xS} {Q : Option xV → xS → Prop} (hp0 : TG σ) (hp1 : 0 ≤ σ 2 4 ∧ σ 2 4 ≤ σ 2 2 ∧ σ 2 2 ≤ 940) (hR : RTC σ b n m s) (hj : tkc b n m s.p = 1) (hQ : ∀ r : Int, ∀ σ' : xS, Fr [1, 2, 5, 6, 7, 8, 9] [2] σ σ' → TG σ' ∧ (0 ≤ σ' 2 4 ∧ σ' 2 4 ≤ σ' 2 2 ∧ σ' 2 2 ≤ 940) ∧ (r = 0 ∨ r = 1) ∧ LNC σ' b n m s r → Q (some (xvi r)) σ') : xT kX9_readPerson [xvr 0, xvr 5] σ Q := by
  obtain ⟨hD, ⟨a0, a1, a2, a3, a4, a5, a6⟩, hN, a7, a8, a9⟩ := hR
  refine sX9_readPersonF (nmR := s.nm) hp0 hp1 hD (by rw [a1]; exact hN) (fun r σ' f h => hQ r σ' (Fr.rf.tr f (by decide) (by decide)) ?_)
  obtain ⟨h1, h2, h3, hA, hO⟩ := h
  refine ⟨h1, h2, h3, ?_⟩
  unfold LNC
  rw [tln_P hj]
  rw [a1] at hA
  rcases hA with h | h | h | h
  · have q : r = 0 ∧ σ' 2 9 = 4 ∧ σ' 2 10 = tka b n m s.p := by omega
    refine Or.inr ⟨q.1, ?_⟩
    rw [tlP_0 (by omega), q.2.1, q.2.2]
  · have q : r = 0 ∧ σ' 2 9 = 1 ∧ σ' 2 10 = tka b n m (tkp b n m s.p) := by omega
    refine Or.inr ⟨q.1, ?_⟩
    rw [tlP_1 (by omega) (by omega), q.2.1, q.2.2]
  · have q : r = 0 ∧ σ' 2 9 = 3 ∧ σ' 2 10 = tka b n m (tkp b n m s.p) := by omega
    refine Or.inr ⟨q.1, ?_⟩
    rw [tlP_2 (by omega) (by omega) (by omega), q.2.1, q.2.2]
  · have q : r = 1 := by omega
    refine Or.inl ⟨q, _, tlP_s (by omega) (by omega) (by omega), ?_⟩
    obtain ⟨o1, o3, o6⟩ := hO q
    have e1 := f.1 1 (by decide) (by decide); have e7 := f.1 7 (by decide) (by decide); have e9 := f.1 9 (by decide) (by decide)
    have o7 : σ' 0 2 = σ 0 2 := f.2 2 (by decide)
    rw [a1] at o3 o6
    exact ⟨o1, ⟨by rw [o3]; exact (up_n (by decide)).trans a0, by rw [o3, up_s], by rw [o3]; exact (up_n (by decide)).trans a2, by rw [o3]; exact (up_n (by decide)).trans a3, o7.trans a4, by rw [o3]; exact (up_n (by decide)).trans a5, by rw [o3]; exact (up_n (by decide)).trans a6⟩, o6, e7.trans a7, e9.trans a8, e1.trans a9⟩
