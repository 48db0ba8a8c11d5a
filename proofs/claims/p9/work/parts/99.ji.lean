/-! A table's row. -/
/-- what the reference's scratch row never holds while a table is read -/
def HZR (g : Nat → Int) : Prop := (∀ i : Nat, i = 4 ∨ i = 5 ∨ i = 6 ∨ (138 ≤ i ∧ i < 571) → g i = 0) ∧ ∀ i : Nat, i < 52 → g 7 ≤ (i : Int) → g (8 + i) = 0
theorem HZR.up1 {g : Nat → Int} {k : Nat} {v : Int} (h : HZR g) (hk : k < 4 ∨ (60 ≤ k ∧ k < 138) ∨ 571 ≤ k) : HZR (up g k v) := ⟨fun i hi => by rw [up_n (by omega)]; exact h.1 i hi, fun i hi h7 => by
  rw [up_n (show 7 ≠ k by omega)] at h7
  rw [up_n (show 8 + i ≠ k by omega)]
  exact h.2 i hi h7⟩
theorem hhp_hi {b f : Nat → Int} {n m p t : Int} (h0 : 0 ≤ t) : ∀ (k : Nat) {i : Nat}, t + k ≤ (i : Int) → hhp b n m p f t k i = f i
  | 0, i, _ => rfl
  | k + 1, i, hi => by
    show up (hhp b n m p f t k) (t + k).toNat (tkv b n m (hps b n m p k)) i = f i
    rw [up_n (by omega)]
    exact hhp_hi h0 k (by omega)
theorem tkv_r {b : Nat → Int} {n m p : Int} (h0 : 0 ≤ p) (hn : p ≤ n) (h : tkc b n m p = 301) : 0 ≤ tkv b n m p ∧ tkv b n m p < 1000 := by
  have z := tk_N (b := b) (m := m) h0 hn
  obtain ⟨r1, r2, r3⟩ := z.rg
  have c := tct_r (k := (nxt b n m p).1) (v := (nxt b n m p).2.1) (w := (nxt b n m p).2.2.1) r1 r2
  exact r3 (by unfold tkc at h; omega)
theorem s_lineZ {b : Nat → Int} {n m : Int} {s : TSx} {σ : xS} {Q : Option xV → xS → Prop} (hn : n ≤ 940) (hy : BYx b n) (he : σ 1 = b ∧ σ 0 3 = n ∧ σ 0 5 = m) (hw : ∀ j : Nat, j < 19 → σ 6 j = R8.getD j 0) (hR : RTR σ b n m s) (hQ : ∀ r : Int, ∀ σ' : xS, Fr [3, 5] [4, 11, 12, 13, 14, 15, 16, 17, 18, 20, 21, 22] σ σ' → (r = 1 → HZR (σ 3) → HZR (σ' 3)) → Q (some (xvi r)) σ') : xT kX11_line [xvr 0] σ Q := by
  obtain ⟨⟨hD, p0, pn, hT⟩, ⟨a0, a1, a2, a3, a4, a5, a6⟩, ⟨b0, b1, b2⟩, c5, c7, c9, c1⟩ := hR
  have hmm := hT.hd0
  have y0 : σ 0 4 = tkp b n m s.p := hD.2.2.2.2.2.2
  have y1 := tkp_r (b := b) (n := n) (m := m) p0 pn
  have y2 := tkp_r (b := b) (n := n) (m := m) (p := tkp b n m s.p) (by omega) y1.2.1
  have y3 := tkp_r (b := b) (n := n) (m := m) (p := tkp b n m (tkp b n m s.p)) (by omega) y2.2.1
  have y4 := tkp_r (b := b) (n := n) (m := m) (p := tkp b n m (tkp b n m (tkp b n m s.p))) (by omega) y3.2.1
  by_cases h0 : tkc b n m s.p = 0
  · refine s_line_0 (σ := σ) (b := b) (n := n) (m := m) (p := s.p) ⟨by omega, by omega, hn⟩ hT hy he hD hw h0 ⟨by omega, by omega, by omega⟩ (fun r σ' f h => hQ r σ' f (fun hr hZ => ?_))
    rw [(h.2 hr).2.1]; exact hZ.up1 (by omega)
  by_cases h1 : tkc b n m s.p = 1
  · refine s_line_1 (σ := σ) (b := b) (n := n) (m := m) (p := s.p) ⟨by omega, by omega, hn⟩ hT hy he hD hw h1 ⟨by omega, by omega, by omega⟩ (fun r σ' f h => hQ r σ' f (fun hr hZ => ?_))
    rw [(h.2 hr).2.1]; exact hZ.up1 (by omega)
  by_cases h2 : tkc b n m s.p = 2
  · refine s_line_2 (σ := σ) (b := b) (n := n) (m := m) (p := s.p) ⟨by omega, by omega, hn⟩ hT hy he hD hw h2 (fun r σ' f h => hQ r σ' f (fun hr hZ => ?_))
    have hA := h.1
    have hf := fnd_r (fun q => σ 5 (6 + q)) (tkw b n m (tkp b n m s.p)) (σ 3 1).toNat
    have hv : tkc b n m (tkp b n m (tkp b n m s.p)) = 301 → _ := tkv_r (b := b) (n := n) (m := m) (p := tkp b n m (tkp b n m s.p)) (by omega) y2.2.1
    have q : tkc b n m (tkp b n m (tkp b n m s.p)) = 301 ∧ tkv b n m (tkp b n m (tkp b n m s.p)) < σ 3 0 ∧ ¬ fnd (fun q => σ 5 (6 + q)) (σ 3 1).toNat (tkw b n m (tkp b n m s.p)) = -1 := by omega
    have q2 := hv q.1
    rw [(h.2.1 hr).2]; exact (hZ.up1 (by omega)).up1 (by omega)
  by_cases h3 : tkc b n m s.p = 3
  · refine s_line_3 (σ := σ) (b := b) (n := n) (m := m) (p := s.p) ⟨by omega, by omega, hn⟩ hT hy he hD hw h3 (fun r σ' f h => hQ r σ' f (fun hr hZ => ?_))
    obtain ⟨⟨k, hG, hA, hO⟩, _⟩ := h
    obtain ⟨_, ⟨_, w7, w8, w9⟩, _, _⟩ := hO hr
    have g70 : 0 ≤ σ 3 7 := hmm.2.2.1
    refine ⟨fun i hi => (w9 i (by omega) (by omega) (by omega)).trans (hZ.1 i hi), fun i hi h7 => ?_⟩
    rw [w8 i hi, hhp_hi g70 k (by omega)]
    exact hZ.2 i hi (by omega)
  by_cases h4 : tkc b n m s.p = 4
  · refine s_line_4 (σ := σ) (b := b) (n := n) (m := m) (p := s.p) ⟨by omega, by omega, hn⟩ hT hy he hD hw h4 ⟨by omega, by omega, by omega⟩ (fun r σ' f h => hQ r σ' f (fun hr hZ => ?_))
    rw [(h.2 hr).2.1]; exact hZ.up1 (by omega)
  by_cases h5 : tkc b n m s.p = 5
  · refine s_line_5 (σ := σ) (b := b) (n := n) (m := m) (p := s.p) ⟨by omega, by omega, hn⟩ hT hy he hD hw h5 ⟨by omega, by omega, by omega⟩ (fun r σ' f h => hQ r σ' f (fun hr hZ => ?_))
    rw [(h.2 hr).2.1]; exact hZ.up1 (by omega)
  refine s_line_x (σ := σ) (b := b) (n := n) (m := m) (p := s.p) ⟨by omega, by omega, hn⟩ hT hy he hD hw (by omega) (fun r σ' f h => hQ r σ' f (fun hr hZ => ?_))
  omega
/-- the row of a table that was read -/
def rowT (t : TSx) : Nat → Int := fun i => if i = 0 then t.kd else if i = 1 then t.ps else if i = 2 then t.ag else if i = 3 then t.rf else if i = 7 then t.hpn else if 8 ≤ i ∧ i < 60 then (if ((i - 8 : Nat) : Int) < t.hpn then t.hp (i - 8) else 0) else if 60 ≤ i ∧ i < 138 then t.hd (i - 60) else if 571 ≤ i ∧ i < 584 then t.pl (i - 571) else 0
theorem rowT_n {t : TSx} : rowT t 0 = t.kd ∧ rowT t 1 = t.ps ∧ rowT t 2 = t.ag ∧ rowT t 3 = t.rf ∧ rowT t 7 = t.hpn := ⟨rfl, rfl, rfl, rfl, rfl⟩
theorem rowT_hp {t : TSx} {i : Nat} (h : i < 52) : rowT t (8 + i) = if (i : Int) < t.hpn then t.hp i else 0 := by
  unfold rowT
  rw [if_neg (by omega), if_neg (by omega), if_neg (by omega), if_neg (by omega), if_neg (by omega), if_pos (by omega), show 8 + i - 8 = i by omega]
theorem rowT_hd {t : TSx} {i : Nat} (h : i < 78) : rowT t (60 + i) = t.hd i := by
  unfold rowT
  rw [if_neg (by omega), if_neg (by omega), if_neg (by omega), if_neg (by omega), if_neg (by omega), if_neg (by omega), if_pos (by omega), show 60 + i - 60 = i by omega]
theorem rowT_pl {t : TSx} {i : Nat} (h : i < 13) : rowT t (571 + i) = t.pl i := by
  unfold rowT
  rw [if_neg (by omega), if_neg (by omega), if_neg (by omega), if_neg (by omega), if_neg (by omega), if_neg (by omega), if_neg (by omega), if_pos (by omega), show 571 + i - 571 = i by omega]
theorem rowT_z {t : TSx} {i : Nat} (h : i = 4 ∨ i = 5 ∨ i = 6 ∨ (138 ≤ i ∧ i < 571) ∨ 584 ≤ i) : rowT t i = 0 := by
  unfold rowT
  rw [if_neg (by omega), if_neg (by omega), if_neg (by omega), if_neg (by omega), if_neg (by omega), if_neg (by omega), if_neg (by omega), if_neg (by omega)]
theorem rowT_eq {t : TSx} {f : Nat → Int} (a0 : f 0 = t.kd) (a1 : f 1 = t.ps) (a2 : f 2 = t.ag) (a3 : f 3 = t.rf) (a6 : f 7 = t.hpn) (c7 : ∀ i : Nat, i < 78 → f (60 + i) = t.hd i) (c9 : ∀ i : Nat, i < 52 → (i : Int) < t.hpn → f (8 + i) = t.hp i) (c1 : ∀ i : Nat, i < 13 → f (571 + i) = t.pl i) (hz : HZR f) (hh : ∀ i : Nat, 584 ≤ i → f i = 0) : f = rowT t := by
  funext i
  by_cases h : i = 4 ∨ i = 5 ∨ i = 6 ∨ (138 ≤ i ∧ i < 571)
  · rw [rowT_z (by omega), hz.1 i h]
  by_cases h2 : 584 ≤ i
  · rw [rowT_z (by omega), hh i h2]
  by_cases h3 : 571 ≤ i
  · rw [show i = 571 + (i - 571) by omega, c1 _ (by omega), rowT_pl (by omega)]
  by_cases h4 : 60 ≤ i
  · rw [show i = 60 + (i - 60) by omega, c7 _ (by omega), rowT_hd (by omega)]
  by_cases h5 : 8 ≤ i
  · rw [show i = 8 + (i - 8) by omega, rowT_hp (by omega)]
    by_cases c : ((i - 8 : Nat) : Int) < t.hpn
    · rw [if_pos c, c9 _ (by omega) c]
    · rw [if_neg c, hz.2 _ (by omega) (by omega)]
  have e : i = 0 ∨ i = 1 ∨ i = 2 ∨ i = 3 ∨ i = 7 := by omega
  rcases e with rfl | rfl | rfl | rfl | rfl
  · exact a0
  · exact a1
  · exact a2
  · exact a3
  · exact a6
theorem VS.pz {f : Nat → Int} (h : VS 0 f) (hb : ∀ q : Nat, q < 13 → f (138 + q) = 0) : PZ f := fun q hq h0 => by
  obtain ⟨hM, hH, hK, hB, _, _, _⟩ := h
  have b := (hB q hq).2
  have e1 : sm 6 (fun p => hd f p q) = 0 := sm_z (fun p hp => (hK p q hp hq).2.2 (Or.inr h0))
  have e2 : ct f (f 7).toNat q = 0 := sm_z (fun i hi => if_neg (fun z => by
    have w := (hH i (by have := hM.2.2.2; omega)).2
    omega))
  rw [e1, e2, hb q hq] at b
  have b : 0 + 0 + (if (0 : Int) < 0 then 4 else 0) = f (571 + q) := b
  rw [if_neg (by decide)] at b
  omega
/-- the game that a table begins -/
theorem begF_tv {f : Nat → Int} (h : VS 0 f) (h2 : f 2 = 0 ∨ f 2 = 1) (h6 : f 6 = 0) (hb : ∀ q : Nat, q < 13 → f (138 + q) = 0) : TV (begF f) ∧ PZ (begF f) ∧ ∀ i, i < 4 ∨ 571 ≤ i → begF f i = f i := by
  obtain ⟨a, b, c⟩ := h.beg
  have e : ∀ i, i < 4 ∨ 571 ≤ i → begF f i = f i := fun i hi => b i (by omega) (by omega)
  have e1 := e 1 (by omega)
  have g6 : begF f 6 = 0 := (b 6 (by omega) (by omega)).trans h6
  have m1 := h.1.2.1
  refine ⟨⟨a, by rw [e 2 (by omega)]; exact h2, by omega, ?_⟩, (h.pz hb).q (fun i hi => e i (by omega)), e⟩
  rcases c with c | c
  · exact Or.inl c
  · exact Or.inr ⟨⟨c.1, by omega, c.2.2⟩, by omega⟩
/-- the answer of table, and the state behind it: the reference -/
def TBR (s : TSx) (σ σ' : xS) (r : Int) : Prop := ∃ x, TEND (σ 1) (σ 0 2) 900 s x ∧ ((∃ y : Int × Int, x = .inl y ∧ r = -1 - y.2 ∧ σ' 2 = σ 2 ∧ (∀ q : Nat, q < 6 → σ' 5 q = σ 5 q) ∧ σ' 0 27 = σ 0 27 ∧ σ' 0 15 = y.1) ∨ (∃ (i : Nat) (t : TSx), x = .inr (i, t) ∧ r = i ∧ VS 0 (rowT t) ∧ (t.ag = 0 ∨ t.ag = 1) ∧ σ' 2 = begF (rowT t) ∧ (∀ q : Nat, (q : Int) < t.ps → σ' 5 q = t.nm q) ∧ σ' 0 27 = 0))
