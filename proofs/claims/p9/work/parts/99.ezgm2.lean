theorem sX9_readHandL {b : Nat → Int} {n m : Int} {s : TSx} {σ : xS} {Q : Option xV → xS → Prop} (hp0 : TG σ) (hp1 : 0 ≤ σ 2 4 ∧ σ 2 4 ≤ σ 2 2 ∧ σ 2 2 ≤ 940) (hR : RTC σ b n m s) (hj : tkc b n m s.p = 2) (hQ : ∀ r : Int, ∀ σ' : xS, Fr [1, 2, 5, 6, 7, 8, 9] [2] σ σ' → TG σ' ∧ (0 ≤ σ' 2 4 ∧ σ' 2 4 ≤ σ' 2 2 ∧ σ' 2 2 ≤ 940) ∧ (r = 0 ∨ r = 1) ∧ LNC σ' b n m s r → Q (some (xvi r)) σ') : xT kX9_readHand [xvr 0, xvr 5] σ Q := by
  obtain ⟨hD, ⟨a0, a1, a2, a3, a4, a5, a6⟩, hN, a7, a8, a9⟩ := hR
  refine sX9_readHandF (nmR := s.nm) hp0 hp1 hD (by rw [a1]; exact hN) (fun r σ' f h => hQ r σ' (Fr.rf.tr f (by decide) (by decide)) ?_)
  obtain ⟨h1, h2, h3, hA, hO⟩ := h
  refine ⟨h1, h2, h3, ?_⟩
  unfold LNC
  rw [tln_H hj]
  rw [a0, a1, a7, a9] at hA
  rcases hA with h | h | h | h | h | h | h | h | h
  · have q : r = 0 ∧ σ' 2 9 = 1 ∧ σ' 2 10 = tka b n m (tkp b n m s.p) := by omega
    refine Or.inr ⟨q.1, ?_⟩
    rw [tlH_0 (by omega), q.2.1, q.2.2]
  · have q : r = 0 ∧ σ' 2 9 = 3 ∧ σ' 2 10 = tka b n m (tkp b n m s.p) := by omega
    refine Or.inr ⟨q.1, ?_⟩
    rw [tlH_1 (by omega) (by omega), q.2.1, q.2.2]
  · have q : r = 0 ∧ σ' 2 9 = 1 ∧ σ' 2 10 = tka b n m (tkp b n m (tkp b n m s.p)) := by omega
    refine Or.inr ⟨q.1, ?_⟩
    rw [tlH_2 (by omega) (by omega) (by omega), q.2.1, q.2.2]
  · have q : r = 0 ∧ σ' 2 9 = 2 ∧ σ' 2 10 = tka b n m (tkp b n m (tkp b n m s.p)) := by omega
    refine Or.inr ⟨q.1, ?_⟩
    rw [tlH_3 (by omega) (by omega) (by omega) (by omega), q.2.1, q.2.2]
  · have q : r = 0 ∧ σ' 2 9 = 3 ∧ σ' 2 10 = tka b n m (tkp b n m (tkp b n m s.p)) := by omega
    refine Or.inr ⟨q.1, ?_⟩
    rw [tlH_4 (by omega) (by omega) (by omega) (by omega) (by omega), q.2.1, q.2.2]
  · have q : r = 0 ∧ σ' 2 9 = 1 ∧ σ' 2 10 = tka b n m (tkp b n m (tkp b n m (tkp b n m s.p))) := by omega
    refine Or.inr ⟨q.1, ?_⟩
    rw [tlH_5 (by omega) (by omega) (by omega) (by omega) (by omega) (by omega), q.2.1, q.2.2]
  · have q : r = 0 ∧ σ' 2 9 = 2 ∧ σ' 2 10 = tka b n m (tkp b n m (tkp b n m (tkp b n m s.p))) := by omega
    refine Or.inr ⟨q.1, ?_⟩
    rw [tlH_6 (by omega) (by omega) (by omega) (by omega) (by omega) (by omega) (by omega), q.2.1, q.2.2]
  · have q : r = 0 ∧ σ' 2 9 = 5 ∧ σ' 2 10 = tka b n m (tkp b n m (tkp b n m (tkp b n m s.p))) := by omega
    refine Or.inr ⟨q.1, ?_⟩
    rw [tlH_7 (by omega) (by omega) (by omega) (by omega) (by omega) (by omega) (by omega) (by omega), q.2.1, q.2.2]
  · have q : r = 1 := by omega
    refine Or.inl ⟨q, _, tlH_s (by omega) (by omega) (by omega) (by omega) (by omega) (by omega) (by omega) (by omega), ?_⟩
    obtain ⟨o1, o3, o6, o8, o9⟩ := hO q
    have e9 := f.1 9 (by decide) (by decide)
    have o7 : σ' 0 2 = σ 0 2 := f.2 2 (by decide)
    rw [a1, a7] at o9
    rw [a9] at o8
    exact ⟨o1, ⟨by rw [o3]; exact a0, by rw [o3]; exact a1, by rw [o3]; exact a2, by rw [o3]; exact a3, o7.trans a4, by rw [o3]; exact a5, by rw [o3]; exact a6⟩, by rw [o6]; exact hN, o9, e9.trans a8, o8⟩
theorem sX9_readHeapL {b : Nat → Int} {n m : Int} {s : TSx} {σ : xS} {Q : Option xV → xS → Prop} (hp0 : TG σ) (hp1 : 0 ≤ σ 2 4 ∧ σ 2 4 ≤ σ 2 2 ∧ σ 2 2 ≤ 940) (hR : RTC σ b n m s) (hj : tkc b n m s.p = 3) (hQ : ∀ r : Int, ∀ σ' : xS, Fr [1, 2, 5, 6, 7, 8, 9] [2] σ σ' → TG σ' ∧ (0 ≤ σ' 2 4 ∧ σ' 2 4 ≤ σ' 2 2 ∧ σ' 2 2 ≤ 940) ∧ (r = 0 ∨ r = 1) ∧ LNC σ' b n m s r → Q (some (xvi r)) σ') : xT kX9_readHeap [xvr 0, xvr 5] σ Q := by
  obtain ⟨hD, ⟨a0, a1, a2, a3, a4, a5, a6⟩, hN, a7, a8, a9⟩ := hR
  refine sX9_readHeapF (nmR := s.nm) hp0 hp1 hD a5 (fun r σ' f h => hQ r σ' (Fr.rf.tr f (by decide) (by decide)) ?_)
  obtain ⟨h1, h2, h3, k, hk, hA, hO⟩ := h
  refine ⟨h1, h2, h3, ?_⟩
  unfold LNC
  rw [tln_E hj]
  rw [a0, a9] at hk hA
  have hg : ¬ hgd b n m s.p s.kd s.pl k := by
    intro g
    obtain ⟨g1, g2, g3⟩ := g
    rcases hA with h | h | h | h
    · exact h.2.1 g1
    · exact h.2.1 g2.2
    · exact g3 h.2.2.1
    · exact h.2.1 g1
  have e := hcn_e hk hg
  subst e
  rcases hA with h | h | h | h
  · refine Or.inr ⟨by omega, ?_⟩
    rw [tlE_0 ⟨h.1, h.2.1⟩, h.2.2.2.1, h.2.2.2.2]
  · refine Or.inr ⟨by omega, ?_⟩
    rw [tlE_1 (by omega) ⟨h.1, h.2.1⟩, h.2.2.2.1, h.2.2.2.2]
  · refine Or.inr ⟨by omega, ?_⟩
    rw [tlE_2 (by omega) (by omega) ⟨h.1, h.2.2.1⟩, h.2.2.2.2.1, h.2.2.2.2.2]
  · refine Or.inl ⟨h.2.2, _, tlE_s (by omega) (by omega) (fun z => h.2.1 z.1), ?_⟩
    obtain ⟨o1, o2, o3, o4, o5, o6⟩ := hO h.2.2
    have o7 : σ' 0 2 = σ 0 2 := f.2 2 (by decide)
    refine ⟨o1, ⟨?_, ?_, ?_, ?_, o7.trans a4, ?_, ?_⟩, by rw [o5]; exact hN, o6.trans a7, by rw [o4, a8, a6], by rw [o2, a9]⟩
    · rw [o3]; exact (up_n (by decide)).trans a0
    · rw [o3]; exact (up_n (by decide)).trans a1
    · rw [o3]; exact (up_n (by decide)).trans a2
    · rw [o3]; exact (up_n (by decide)).trans a3
    · rw [o3]; exact (up_n (by decide)).trans a5
    · rw [o3, up_s, a6]
theorem sX9_readAgainL {b : Nat → Int} {n m : Int} {s : TSx} {σ : xS} {Q : Option xV → xS → Prop} (hp0 : TG σ) (hp1 : 0 ≤ σ 2 4 ∧ σ 2 4 ≤ σ 2 2 ∧ σ 2 2 ≤ 940) (hR : RTC σ b n m s) (hj : tkc b n m s.p = 4) (hQ : ∀ r : Int, ∀ σ' : xS, Fr [1, 2, 5, 6, 7, 8, 9] [2] σ σ' → TG σ' ∧ (0 ≤ σ' 2 4 ∧ σ' 2 4 ≤ σ' 2 2 ∧ σ' 2 2 ≤ 940) ∧ (r = 0 ∨ r = 1) ∧ LNC σ' b n m s r → Q (some (xvi r)) σ') : xT kX9_readAgain [xvr 0, xvr 5] σ Q := by
  obtain ⟨hD, ⟨a0, a1, a2, a3, a4, a5, a6⟩, hN, a7, a8, a9⟩ := hR
  refine sX9_readAgainF (nmR := s.nm) hp0 hp1 hD (fun r σ' f h => hQ r σ' (Fr.rf.tr f (by decide) (by decide)) ?_)
  obtain ⟨h1, h2, h3, hA, hO⟩ := h
  refine ⟨h1, h2, h3, ?_⟩
  unfold LNC
  rw [tln_A hj]
  rw [a2] at hA
  rcases hA with h | h
  · have q : r = 0 ∧ σ' 2 9 = 3 ∧ σ' 2 10 = tka b n m s.p := by omega
    refine Or.inr ⟨q.1, ?_⟩
    rw [tlA_0 (by omega), q.2.1, q.2.2]
  · have q : r = 1 := by omega
    refine Or.inl ⟨q, _, tlA_s (by omega), ?_⟩
    obtain ⟨o1, o3⟩ := hO q
    have e1 := f.1 1 (by decide) (by decide); have e6 := f.1 6 (by decide) (by decide); have e7 := f.1 7 (by decide) (by decide); have e9 := f.1 9 (by decide) (by decide)
    have o7 : σ' 0 2 = σ 0 2 := f.2 2 (by decide)
    exact ⟨o1, ⟨by rw [o3]; exact (up_n (by decide)).trans a0, by rw [o3]; exact (up_n (by decide)).trans a1, by rw [o3, up_s], by rw [o3]; exact (up_n (by decide)).trans a3, o7.trans a4, by rw [o3]; exact (up_n (by decide)).trans a5, by rw [o3]; exact (up_n (by decide)).trans a6⟩, by rw [e6]; exact hN, e7.trans a7, e9.trans a8, e1.trans a9⟩
theorem sX9_readRefillL {b : Nat → Int} {n m : Int} {s : TSx} {σ : xS} {Q : Option xV → xS → Prop} (hp0 : TG σ) (hp1 : 0 ≤ σ 2 4 ∧ σ 2 4 ≤ σ 2 2 ∧ σ 2 2 ≤ 940) (hR : RTC σ b n m s) (hj : tkc b n m s.p = 5) (hQ : ∀ r : Int, ∀ σ' : xS, Fr [1, 2, 5, 6, 7, 8, 9] [2] σ σ' → TG σ' ∧ (0 ≤ σ' 2 4 ∧ σ' 2 4 ≤ σ' 2 2 ∧ σ' 2 2 ≤ 940) ∧ (r = 0 ∨ r = 1) ∧ LNC σ' b n m s r → Q (some (xvi r)) σ') : xT kX9_readRefill [xvr 0, xvr 5] σ Q := by
  obtain ⟨hD, ⟨a0, a1, a2, a3, a4, a5, a6⟩, hN, a7, a8, a9⟩ := hR
  refine sX9_readRefillF (nmR := s.nm) hp0 hp1 hD (fun r σ' f h => hQ r σ' (Fr.rf.tr f (by decide) (by decide)) ?_)
  obtain ⟨h1, h2, h3, hA, hO⟩ := h
  refine ⟨h1, h2, h3, ?_⟩
  unfold LNC
  rw [tln_R hj]
  rw [a4] at hA
  rcases hA with h | h | h | h
  · have q : r = 0 ∧ σ' 2 9 = 3 ∧ σ' 2 10 = tka b n m s.p := by omega
    refine Or.inr ⟨q.1, ?_⟩
    rw [tlR_0 (by omega), q.2.1, q.2.2]
  · have q : r = 0 ∧ σ' 2 9 = 1 ∧ σ' 2 10 = tka b n m (tkp b n m s.p) := by omega
    refine Or.inr ⟨q.1, ?_⟩
    rw [tlR_1 (by omega) (by omega), q.2.1, q.2.2]
  · have q : r = 0 ∧ σ' 2 9 = 2 ∧ σ' 2 10 = tka b n m (tkp b n m s.p) := by omega
    refine Or.inr ⟨q.1, ?_⟩
    rw [tlR_2 (by omega) (by omega) (by omega), q.2.1, q.2.2]
  · have q : r = 1 := by omega
    refine Or.inl ⟨q, _, tlR_s (by omega) (by omega) (by omega), ?_⟩
    obtain ⟨o1, o3, o7⟩ := hO q
    have e1 := f.1 1 (by decide) (by decide); have e6 := f.1 6 (by decide) (by decide); have e7 := f.1 7 (by decide) (by decide); have e9 := f.1 9 (by decide) (by decide)
    exact ⟨o1, ⟨by rw [o3]; exact (up_n (by decide)).trans a0, by rw [o3]; exact (up_n (by decide)).trans a1, by rw [o3]; exact (up_n (by decide)).trans a2, by rw [o3, up_s], o7, by rw [o3]; exact (up_n (by decide)).trans a5, by rw [o3]; exact (up_n (by decide)).trans a6⟩, by rw [e6]; exact hN, e7.trans a7, e9.trans a8, e1.trans a9⟩

