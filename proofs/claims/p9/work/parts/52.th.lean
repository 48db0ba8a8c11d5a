/-! A table as it is read: hands and heap are right, all else is 0. -/
theorem VS.ag8 {j : Int} {f f' : Nat → Int} (h : VS j f) (a : ∀ i, i < 584 → ¬ IR i → f' i = f i) : VS j f' := by
  obtain ⟨hm, hh, hk, hb, hd', hz, ho⟩ := h
  have s' : ∀ i, ¬ i = 2 → ¬ i = 5 → (i < 235 ∨ (565 ≤ i ∧ i < 584)) → f' i = f i := fun i a1 a2 a3 => a i (by omega) (nir a1 a2 (by omega))
  have e0 : f' 0 = f 0 := s' 0 (by decide) (by decide) (by omega)
  have e1 : f' 1 = f 1 := s' 1 (by decide) (by decide) (by omega)
  have e3 : f' 3 = f 3 := s' 3 (by decide) (by decide) (by omega)
  have e7 : f' 7 = f 7 := s' 7 (by decide) (by decide) (by omega)
  have eH : ∀ p k, p < 6 → k < 13 → hd f' p k = hd f p k := fun p k hp hk => s' _ (by omega) (by omega) (by omega)
  have eK : ∀ p k, p < 6 → k < 13 → kn f' p k = kn f p k := fun p k hp hk => s' _ (by omega) (by omega) (by omega)
  refine ⟨?_, ?_, ?_, ?_, ?_, ?_, ?_⟩
  · unfold VM; rw [e0, e1, e3, e7]; exact hm
  · intro i hi
    rw [e7] at hi
    rw [e0, s' (8 + i) (by omega) (by omega) (by have := hm.2.2.2.2; omega)]
    exact hh i hi
  · intro p k hp hk'
    rw [eH p k hp hk', eK p k hp hk', e0, e1]
    exact hk p k hp hk'
  · intro k hk'
    rw [s' (138 + k) (by omega) (by omega) (by omega), s' (571 + k) (by omega) (by omega) (by omega), e7, sm_congr (n := 6) (g := fun p => hd f' p k) (g' := fun p => hd f p k) (fun i hi => eH i k hi hk'), ct_congr (fun i hi => s' (8 + i) (by omega) (by omega) (by have := hm.2.2.2.2; omega))]
    exact hb k hk'
  · intro p hp
    rw [s' (565 + p) (by omega) (by omega) (by omega)]
    exact hd' p hp
  · intro p k hp hk'
    rw [eK p k hp hk']; exact hz p k hp hk'
  · intro p hp
    rw [sm_congr (g := hd f' p) (g' := hd f p) (fun i hi => eH p i hp hi), s' _ (by omega) (by omega) (by omega)]
    exact ho p hp
theorem sm_z {n : Nat} {g : Nat → Int} (h : ∀ i, i < n → g i = 0) : sm n g = 0 := by
  rw [sm_congr (g := g) (g' := fun _ => 0) h, sm_const]; simp
theorem VS.zero {f : Nat → Int} (a : ∀ i, i < 584 → f i = 0) : VS 0 f := by
  have a0 := a 0 (by omega)
  have a1 := a 1 (by omega)
  have a3 := a 3 (by omega)
  have a7 := a 7 (by omega)
  refine ⟨?_, ?_, ?_, ?_, ?_, ?_, ?_⟩
  · unfold VM; rw [a0, a1, a3, a7]; decide
  · intro i hi; rw [a7] at hi; omega
  · intro p k hp hk
    have e1 : hd f p k = 0 := a _ (by omega)
    have e2 : kn f p k = 0 := a _ (by omega)
    rw [e1, e2]; exact ⟨by omega, by omega, fun _ => rfl⟩
  · intro k hk
    rw [a (138 + k) (by omega), a (571 + k) (by omega), a7, sm_z (n := 6) (g := fun p => hd f p k) (fun i hi => a (60 + 13 * i + k) (by omega))]
    exact ⟨by omega, rfl⟩
  · intro p hp; rw [a (565 + p) (by omega)]; omega
  · intro p k hp hk; exact a _ (by omega)
  · intro p hp; rw [a (229 + p) (by omega), if_neg (by omega)]
/-- hasKinds goes with the kinds -/
def TH (f : Nat → Int) (k : Int) : Prop := VS 0 f ∧ f 6 = 0 ∧ (k = 0 → f 0 = 0)
/-- only the first places change -/
theorem VS.low {f f' : Nat → Int} (h : VS 0 f) (hm : VM f') (h0 : f' 0 = f 0 ∨ f 7 ≤ 0 ∧ f 0 = 0) (h1 : f 1 ≤ f' 1) (a : ∀ i, 7 ≤ i → f' i = f i) : VS 0 f' := by
  obtain ⟨hm', hh, hk, hb, hd', hz, ho⟩ := h
  have hg : f 0 ≤ f' 0 := by
    have := hm.1
    rcases h0 with h | h <;> omega
  have eH : ∀ p k, hd f' p k = hd f p k := fun p k => a _ (by omega)
  have eK : ∀ p k, kn f' p k = kn f p k := fun p k => a _ (by omega)
  refine ⟨hm, ?_, ?_, ?_, ?_, ?_, ?_⟩
  · intro i hi
    rw [a 7 (by omega)] at hi
    rw [a (8 + i) (by omega)]
    have := hh i hi
    omega
  · intro p k hp hk'
    rw [eH, eK]
    have := hk p k hp hk'
    exact ⟨this.1, this.2.1, fun hx => this.2.2 (by omega)⟩
  · intro k hk'
    rw [a (138 + k) (by omega), a (571 + k) (by omega), a 7 (by omega), sm_congr (n := 6) (g := fun p => hd f' p k) (g' := fun p => hd f p k) (fun i hi => eH i k), ct_congr (fun i hi => a (8 + i) (by omega))]
    exact hb k hk'
  · intro p hp
    rw [a (565 + p) (by omega)]; exact hd' p hp
  · intro p k hp hk'
    rw [eK]; exact hz p k hp hk'
  · intro p hp
    rw [a (229 + p) (by omega), sm_congr (g := hd f' p) (g' := hd f p) (fun i hi => eH p i)]; exact ho p hp
theorem TH.kk {f : Nat → Int} {k k' : Int} (h : TH f k) (hk : ¬ k' = 0) : TH f k' := ⟨h.1, h.2.1, fun h => absurd h hk⟩
theorem TH.k0 {f : Nat → Int} {k v : Int} (h : TH f k) (hz : f 0 = 0) (hv : 2 ≤ v ∧ v ≤ 13) (hk : ¬ k = 0) : TH (up f 0 v) k := by
  obtain ⟨h1, h2, h3⟩ := h
  have h7 : f 7 ≤ 0 := by
    by_cases c : f 7 ≤ 0
    · exact c
    · have := h1.2.1 0 (by omega)
      omega
  have m := h1.1
  refine ⟨h1.low ?_ (Or.inr ⟨h7, hz⟩) (by rw [up_n (by omega)]; omega) (fun i hi => up_n (by omega)), by rw [up_n (by omega)]; exact h2, fun h => absurd h hk⟩
  unfold VM
  rw [up_s, up_n (by omega), up_n (by omega), up_n (by omega)]
  exact ⟨by omega, m.2⟩
theorem TH.k1 {f : Nat → Int} {k v : Int} (h : TH f k) (h6 : ¬ f 1 = 6) (hv : v = f 1 + 1) : TH (up f 1 v) k := by
  obtain ⟨h1, h2, h3⟩ := h
  have m := h1.1
  refine ⟨h1.low ?_ (Or.inl (up_n (by omega))) (by rw [up_s]; omega) (fun i hi => up_n (by omega)), by rw [up_n (by omega)]; exact h2, fun h => by rw [up_n (by omega)]; exact h3 h⟩
  unfold VM
  rw [up_s, up_n (by omega), up_n (by omega), up_n (by omega)]
  have := m.2.1
  exact ⟨m.1, by omega, m.2.2⟩
theorem TH.k2 {f : Nat → Int} {k v : Int} (h : TH f k) : TH (up f 2 v) k := by
  obtain ⟨h1, h2, h3⟩ := h
  refine ⟨h1.low ?_ (Or.inl (up_n (by omega))) (by rw [up_n (by omega)]; omega) (fun i hi => up_n (by omega)), by rw [up_n (by omega)]; exact h2, fun h => by rw [up_n (by omega)]; exact h3 h⟩
  unfold VM
  rw [up_n (by omega), up_n (by omega), up_n (by omega), up_n (by omega)]
  exact h1.1
theorem TH.k3 {f : Nat → Int} {k v : Int} (h : TH f k) (hv : 0 ≤ v ∧ v ≤ 9) : TH (up f 3 v) k := by
  obtain ⟨h1, h2, h3⟩ := h
  have m := h1.1
  refine ⟨h1.low ?_ (Or.inl (up_n (by omega))) (by rw [up_n (by omega)]; omega) (fun i hi => up_n (by omega)), by rw [up_n (by omega)]; exact h2, fun h => by rw [up_n (by omega)]; exact h3 h⟩
  unfold VM
  rw [up_s, up_n (by omega), up_n (by omega), up_n (by omega)]
  exact ⟨m.1, m.2.1, hv, m.2.2.2⟩
theorem TH.hd0 {f : Nat → Int} {k : Int} (h : TH f k) : (0 ≤ f 0 ∧ f 0 ≤ 13) ∧ (0 ≤ f 1 ∧ f 1 ≤ 6) ∧ (0 ≤ f 7 ∧ f 7 ≤ 52) := ⟨h.1.1.1, h.1.1.2.1, h.1.1.2.2.2⟩
theorem TH.pl {f : Nat → Int} {k : Int} (h : TH f k) {kd : Int} (hkd : 0 ≤ kd ∧ kd ≤ 12) : 0 ≤ f (571 + kd).toNat ∧ f (571 + kd).toNat ≤ 4 := by
  have b := h.1.2.2.2.1 kd.toNat (by omega)
  have h4 : 0 ≤ sm 6 (fun p => hd f p kd.toNat) := sm_nn (fun i hi => (h.1.hand hi (by omega)).1)
  have h5 : 0 ≤ ct f (f 7).toNat kd.toNat := sm_nn (fun i _ => by split <;> omega)
  have h2 := b.2
  have h1 := b.1
  rw [show (571 + kd).toNat = 571 + kd.toNat from by omega]
  split at h2 <;> omega
/-- a hand's line -/
theorem TH.hand {f : Nat → Int} {k p kd n w : Int} (h : TH f k) (hp : 0 ≤ p ∧ p < f 1) (hk : 0 ≤ kd ∧ kd < f 0) (h0 : f (60 + 13 * p + kd).toNat ≤ 0) (hn : 1 ≤ n ∧ n ≤ 4) (hw : w = f (571 + kd).toNat + n) (h4 : w ≤ 4) : TH (up (up f (571 + kd).toNat w) (60 + 13 * p + kd).toNat n) k := by
  obtain ⟨h1, h2, h3⟩ := h
  have m := h1.1
  have e1 : (571 + kd).toNat = 571 + kd.toNat := by omega
  have e2 : (60 + 13 * p + kd).toNat = 60 + 13 * p.toNat + kd.toNat := by have := m.2.1; have := m.1; omega
  have hp6 : p.toNat < 6 := by have := m.2.1; omega
  have hk13 : kd.toNat < 13 := by have := m.1; omega
  rw [e1] at hw
  rw [e2] at h0
  rw [e1, e2]
  have hx0 : hd f p.toNat kd.toNat = 0 := by have := h1.hand hp6 hk13; unfold hd at this ⊢; omega
  obtain ⟨hm', hh, hkk, hb, hd', hz, ho⟩ := h1
  generalize hg : up (up f (571 + kd.toNat) w) (60 + 13 * p.toNat + kd.toNat) n = f'
  have s' : ∀ i, i ≠ 571 + kd.toNat → i ≠ 60 + 13 * p.toNat + kd.toNat → f' i = f i := fun i a b => by rw [← hg, up_n b, up_n a]
  have eP : f' (571 + kd.toNat) = w := by rw [← hg, up_n (by omega), up_s]
  have eN : hd f' p.toNat kd.toNat = n := by unfold hd; rw [← hg, up_s]
  have eH : ∀ q j, q < 6 → j < 13 → ¬ (q = p.toNat ∧ j = kd.toNat) → hd f' q j = hd f q j := fun q j hq hj hne => s' _ (by omega) (by omega)
  have eK : ∀ q j, q < 6 → j < 13 → kn f' q j = kn f q j := fun q j hq hj => s' _ (by omega) (by omega)
  refine ⟨⟨?_, ?_, ?_, ?_, ?_, ?_, ?_⟩, by rw [s' 6 (by omega) (by omega)]; exact h2, by rw [s' 0 (by omega) (by omega)]; exact h3⟩
  · unfold VM; rw [s' 0 (by omega) (by omega), s' 1 (by omega) (by omega), s' 3 (by omega) (by omega), s' 7 (by omega) (by omega)]; exact hm'
  · intro i hi
    rw [s' 7 (by omega) (by omega)] at hi
    rw [s' (8 + i) (by have := hm'.2.2.2; omega) (by have := hm'.2.2.2; omega), s' 0 (by omega) (by omega)]
    exact hh i hi
  · intro q j hq hj
    rw [eK q j hq hj, s' 0 (by omega) (by omega), s' 1 (by omega) (by omega)]
    have a := hkk q j hq hj
    by_cases e : q = p.toNat ∧ j = kd.toNat
    · obtain ⟨rfl, rfl⟩ := e
      rw [eN]
      exact ⟨a.1, by omega, fun hx => by omega⟩
    · rw [eH q j hq hj e]; exact a
  · intro j hj
    rw [s' (138 + j) (by omega) (by omega), s' 7 (by omega) (by omega), ct_congr (f := f) (f' := f') (fun i hi => s' (8 + i) (by have := hm'.2.2.2; omega) (by have := hm'.2.2.2; omega))]
    have a := hb j hj
    by_cases e : j = kd.toNat
    · subst e
      rw [eP, sm_upd (n := 6) (g := fun p => hd f p kd.toNat) (g' := fun p => hd f' p kd.toNat) hp6 (fun i hi hne => eH i _ hi hj (by omega))]
      try dsimp only
      rw [eN, hx0]
      have a2 := a.2
      exact ⟨⟨a.1.1, a.1.2.1, h4⟩, by omega⟩
    · rw [s' (571 + j) (by omega) (by omega), sm_congr (n := 6) (g := fun p => hd f' p j) (g' := fun p => hd f p j) (fun i hi => eH i j hi hj (by omega))]
      exact a
  · intro q hq; rw [s' (565 + q) (by omega) (by omega)]; exact hd' q hq
  · intro q j hq hj; rw [eK q j hq hj]; exact hz q j hq hj
  · intro q hq
    rw [s' (229 + q) (by omega) (by omega), if_neg (by omega)]
    have := ho q hq
    rw [if_neg (by omega)] at this
    exact this
/-- the heap's cards, counted by kinds -/
theorem sm_one {n c : Nat} (hc : c < n) : sm n (fun k => if (c : Int) = (k : Int) then 1 else 0) = 1 := by
  rw [sm_upd (g := fun _ => 0) (g' := fun k : Nat => if (c : Int) = (k : Int) then (1 : Int) else 0) hc (fun i hi hne => by rw [if_neg (by omega)]), sm_const, if_pos rfl]
  simp
theorem sm_add {n : Nat} {g h : Nat → Int} : sm n (fun i => g i + h i) = sm n g + sm n h := by
  induction n with
  | zero => rfl
  | succ n ih =>
    simp only [sm]
    rw [ih]
    omega
theorem ct_all {f : Nat → Int} {n : Nat} (h : ∀ i, i < n → 0 ≤ f (8 + i) ∧ f (8 + i) < 13) : sm 13 (fun k => ct f n k) = n := by
  induction n with
  | zero => exact sm_z (fun i _ => rfl)
  | succ n ih =>
    have e : ∀ k, ct f (n + 1) k = ct f n k + (if f (8 + n) = k then 1 else 0) := fun k => rfl
    rw [sm_congr (fun i _ => e i), sm_add, ih (fun i hi => h i (by omega))]
    have hc := h n (by omega)
    have e2 := sm_one (n := 13) (c := (f (8 + n)).toNat) (by omega)
    rw [sm_congr (g := fun k : Nat => if f (8 + n) = (k : Int) then (1 : Int) else 0) (g' := fun k : Nat => if ((f (8 + n)).toNat : Int) = (k : Int) then (1 : Int) else 0) (fun i _ => by rw [show ((f (8 + n)).toNat : Int) = f (8 + n) from by omega]), e2]
    omega
theorem VS.h51 {f : Nat → Int} {j : Int} (h : VS j f) {kd : Nat} (hk : kd < 13) (h4 : f (571 + kd) < 4) : f 7 ≤ 51 := by
  obtain ⟨hm, hh, hkk, hb, hd', hz, ho⟩ := h
  have m7 := hm.2.2.2
  have m0 := hm.1
  have e := ct_all (f := f) (n := (f 7).toNat) (fun i hi => by have := hh i (by omega); omega)
  have l := sm_le (n := 13) (g := fun k => ct f (f 7).toNat k) (g' := fun k => if k = kd then 3 else 4) (fun i hi => by
    have b := hb i hi
    have s6 : 0 ≤ sm 6 (fun p => hd f p i) := sm_nn (fun q hq => by have := hkk q i hq hi; omega)
    have b2 := b.2
    have b1 := b.1
    try dsimp only
    by_cases c : i = kd
    · subst c; rw [if_pos rfl]; split at b2 <;> omega
    · rw [if_neg c]; split at b2 <;> omega)
  have e2 : sm 13 (fun k => if k = kd then (3 : Int) else 4) = 51 := by
    rw [sm_upd (g := fun _ => 4) (g' := fun k : Nat => if k = kd then (3 : Int) else 4) hk (fun i hi hne => by rw [if_neg hne]), sm_const, if_pos rfl]
    rfl
  omega
theorem TH.h51 {f : Nat → Int} {k kd : Int} (h : TH f k) (hk : 0 ≤ kd ∧ kd < f 0) (h4 : ¬ f (571 + kd).toNat = 4) : f 7 ≤ 51 := by
  have m := h.1.1.1
  have q := h.pl (kd := kd) (by omega)
  refine h.1.h51 (kd := kd.toNat) (by omega) ?_
  rw [← show (571 + kd).toNat = 571 + kd.toNat from by omega]
  omega
/-- a card of the heap's line -/
theorem TH.heap {f : Nat → Int} {k kd w v : Int} (h : TH f k) (hk : 0 ≤ kd ∧ kd < f 0) (h4 : ¬ f (571 + kd).toNat = 4) (hw : w = f (571 + kd).toNat + 1) (hv : v = f 7 + 1) : TH (up (up (up f (571 + kd).toNat w) (8 + f 7).toNat kd) 7 v) k := by
  have h51 := h.h51 hk h4
  have hpl := h.pl (kd := kd) (by have := h.1.1.1; omega)
  obtain ⟨h1, h2, h3⟩ := h
  have m := h1.1
  have e1 : (571 + kd).toNat = 571 + kd.toNat := by omega
  have e2 : (8 + f 7).toNat = 8 + (f 7).toNat := by have := m.2.2.2; omega
  have hk13 : kd.toNat < 13 := by have := m.1; omega
  rw [e1] at hw h4 hpl
  rw [e1, e2]
  obtain ⟨hm', hh, hkk, hb, hd', hz, ho⟩ := h1
  have m7 := hm'.2.2.2
  generalize hg : up (up (up f (571 + kd.toNat) w) (8 + (f 7).toNat) kd) 7 v = f'
  have s' : ∀ i, i ≠ 571 + kd.toNat → i ≠ 8 + (f 7).toNat → i ≠ 7 → f' i = f i := fun i a b c => by rw [← hg, up_n c, up_n b, up_n a]
  have eP : f' (571 + kd.toNat) = w := by rw [← hg, up_n (by omega), up_n (by omega), up_s]
  have eC : f' (8 + (f 7).toNat) = kd := by rw [← hg, up_n (by omega), up_s]
  have e7 : f' 7 = v := by rw [← hg, up_s]
  have eH : ∀ q j, q < 6 → j < 13 → hd f' q j = hd f q j := fun q j hq hj => s' _ (by omega) (by omega) (by omega)
  have eK : ∀ q j, q < 6 → j < 13 → kn f' q j = kn f q j := fun q j hq hj => s' _ (by omega) (by omega) (by omega)
  refine ⟨⟨?_, ?_, ?_, ?_, ?_, ?_, ?_⟩, by rw [s' 6 (by omega) (by omega) (by omega)]; exact h2, by rw [s' 0 (by omega) (by omega) (by omega)]; exact h3⟩
  · unfold VM; rw [s' 0 (by omega) (by omega) (by omega), s' 1 (by omega) (by omega) (by omega), s' 3 (by omega) (by omega) (by omega), e7]; exact ⟨hm'.1, hm'.2.1, hm'.2.2.1, by omega⟩
  · intro i hi
    rw [e7] at hi
    rw [s' 0 (by omega) (by omega) (by omega)]
    by_cases c : i = (f 7).toNat
    · subst c; rw [eC]; exact hk
    · rw [s' (8 + i) (by omega) (by omega) (by omega)]
      exact hh i (by omega)
  · intro q j hq hj
    rw [eK q j hq hj, eH q j hq hj, s' 0 (by omega) (by omega) (by omega), s' 1 (by omega) (by omega) (by omega)]
    exact hkk q j hq hj
  · intro j hj
    rw [s' (138 + j) (by omega) (by omega) (by omega), e7, hv, show (f 7 + 1).toNat = (f 7).toNat + 1 from by omega, sm_congr (n := 6) (g := fun p => hd f' p j) (g' := fun p => hd f p j) (fun i hi => eH i j hi hj)]
    have ec : ct f' ((f 7).toNat + 1) j = ct f' (f 7).toNat j + (if f' (8 + (f 7).toNat) = j then 1 else 0) := rfl
    rw [ec, eC, ct_congr (f := f) (f' := f') (fun i hi => s' (8 + i) (by omega) (by omega) (by omega))]
    have a := hb j hj
    have a2 := a.2
    by_cases e : j = kd.toNat
    · subst e
      rw [eP, if_pos (show kd = (kd.toNat : Int) from by omega)]
      exact ⟨⟨a.1.1, a.1.2.1, by omega⟩, by omega⟩
    · rw [s' (571 + j) (by omega) (by omega) (by omega), if_neg (show ¬ kd = (j : Int) from by omega)]
      exact ⟨a.1, by omega⟩
  · intro q hq; rw [s' (565 + q) (by omega) (by omega) (by omega)]; exact hd' q hq
  · intro q j hq hj; rw [eK q j hq hj]; exact hz q j hq hj
  · intro q hq
    rw [s' (229 + q) (by omega) (by omega) (by omega), if_neg (by omega)]
    have := ho q hq
    rw [if_neg (by omega)] at this
    exact this
