/-! The game's numbers, without a machine: what each step of an asking keeps. -/
def VM (f : Nat → Int) : Prop := (0 ≤ f 0 ∧ f 0 ≤ 13) ∧ (0 ≤ f 1 ∧ f 1 ≤ 6) ∧ (0 ≤ f 3 ∧ f 3 ≤ 9) ∧ (0 ≤ f 7 ∧ f 7 ≤ 52)
def V0 (f : Nat → Int) : Prop := VM f ∧ VH f ∧ VK f ∧ VO f ∧ VB f ∧ VD f
def VTn (f : Nat → Int) : Prop := (-1 ≤ f 4 ∧ f 4 < f 1) ∧ (0 ≤ f 6 ∧ f 6 ≤ f 1 ∧ (¬ f 4 = -1 → f 6 < f 1))
theorem VG_iff {f : Nat → Int} : VG f ↔ V0 f ∧ VTn f ∧ VT f := by
  unfold VG VN V0 VM VTn
  constructor
  · intro ⟨⟨a, b, c, d, e, g⟩, h⟩; exact ⟨⟨⟨a, b, c, g⟩, h.1, h.2.1, h.2.2.1, h.2.2.2.1, h.2.2.2.2.1⟩, ⟨d, e⟩, h.2.2.2.2.2⟩
  · intro ⟨⟨⟨a, b, c, g⟩, h⟩, ⟨d, e⟩, i⟩; exact ⟨⟨a, b, c, d, e, g⟩, h.1, h.2.1, h.2.2.1, h.2.2.2.1, h.2.2.2.2, i⟩
/-- places that no rule speaks of: again, askings, rows of others, caught, asked, given -/
def IR (i : Nat) : Prop := i = 2 ∨ i = 5 ∨ (235 ≤ i ∧ i < 565)
def AG (f f' : Nat → Int) : Prop := ∀ i, ¬ IR i → f' i = f i
theorem AG.rf {f : Nat → Int} : AG f f := fun _ _ => rfl
theorem AG.tr {f g h : Nat → Int} (a : AG f g) (b : AG g h) : AG f h := fun i hi => (b i hi).trans (a i hi)
theorem AG.at {f f' : Nat → Int} (h : AG f f') {i : Nat} (hi : ¬ IR i) : f' i = f i := h i hi
theorem nir {i : Nat} (h : ¬ i = 2) (h2 : ¬ i = 5) (h3 : i < 235 ∨ 565 ≤ i) : ¬ IR i := by unfold IR; omega
theorem ct_congr {f f' : Nat → Int} {n : Nat} {k : Nat} (h : ∀ i, i < n → f' (8 + i) = f (8 + i)) : ct f' n k = ct f n k := sm_congr (fun i hi => by rw [h i hi])
theorem V0.ag {f f' : Nat → Int} (h : V0 f) (a : AG f f') : V0 f' := by
  obtain ⟨hm, hh, hk, ho, hb, hd'⟩ := h
  have e0 : f' 0 = f 0 := a 0 (nir (by decide) (by decide) (by omega))
  have e1 : f' 1 = f 1 := a 1 (nir (by decide) (by decide) (by omega))
  have e3 : f' 3 = f 3 := a 3 (nir (by decide) (by decide) (by omega))
  have e7 : f' 7 = f 7 := a 7 (nir (by decide) (by decide) (by omega))
  have eH : ∀ p k, p < 6 → k < 13 → hd f' p k = hd f p k := fun p k hp hk => a _ (nir (by omega) (by omega) (by omega))
  have eK : ∀ p k, p < 6 → k < 13 → kn f' p k = kn f p k := fun p k hp hk => a _ (nir (by omega) (by omega) (by omega))
  refine ⟨?_, ?_, ?_, ?_, ?_, ?_⟩
  · unfold VM; rw [e0, e1, e3, e7]; exact hm
  · intro i hi
    rw [e7] at hi
    rw [e0, a (8 + i) (nir (by omega) (by omega) (by have := hm.2.2.2.2; omega))]
    exact hh i hi
  · intro p k hp hk'
    rw [eH p k hp hk', eK p k hp hk', e0, e1]
    exact hk p k hp hk'
  · intro p hp
    rw [a (229 + p) (nir (by omega) (by omega) (by omega)), sm_congr (fun i hi => eK p i hp hi), sm_congr (fun i hi => eH p i hp hi)]
    exact ho p hp
  · intro k hk'
    rw [a (138 + k) (nir (by omega) (by omega) (by omega)), a (571 + k) (nir (by omega) (by omega) (by omega)), e7, sm_congr (n := 6) (g := fun p => hd f' p k) (g' := fun p => hd f p k) (fun i hi => eH i k hi hk'), ct_congr (fun i hi => a (8 + i) (nir (by omega) (by omega) (by have := hm.2.2.2.2; omega)))]
    exact hb k hk'
  · intro p hp
    rw [a (565 + p) (nir (by omega) (by omega) (by omega))]
    exact hd' p hp
/-- a place of f is set -/
def up (f : Nat → Int) (i : Nat) (v : Int) : Nat → Int := fun j => if j = i then v else f j
theorem up_s {f : Nat → Int} {i : Nat} {v : Int} : up f i v i = v := by simp [up]
theorem up_n {f : Nat → Int} {i j : Nat} {v : Int} (h : j ≠ i) : up f i v j = f j := by simp [up, h]
theorem xput_up {σ : xS} {t j : Nat} {v : Int} : xput σ t j v t = up (σ t) j v := by
  funext i
  simp [xput, up]
theorem V0.hand {f : Nat → Int} (h : V0 f) {p k : Nat} (hp : p < 6) (hk : k < 13) : 0 ≤ hd f p k ∧ hd f p k ≤ 4 := by
  obtain ⟨hm, hh, hkk, ho, hb, hd'⟩ := h
  have h2 := (hb k hk).2
  have h3 := (hb k hk).1
  have h0 : ∀ i, i < 6 → 0 ≤ (fun p => hd f p k) i := fun i hi => by have := hkk i k hi hk; dsimp only; omega
  have h4 := sm_ge (n := 6) (g := fun p => hd f p k) h0 hp
  have h5 : 0 ≤ ct f (f 7).toNat k := sm_nn (fun i _ => by split <;> omega)
  have h6 := hkk p k hp hk
  split at h2 <;> omega
theorem V0.others {f : Nat → Int} (h : V0 f) {p : Nat} (hp : p < 6) : 0 ≤ f (229 + p) ∧ f (229 + p) ≤ 52 := by
  have h1 := h.2.2.2.1 p hp
  have h5 := sm_le (n := 13) (g := hd f p) (g' := fun _ => 4) (fun i hi => (h.hand hp hi).2)
  rw [sm_const] at h5
  have h3 := sm_le (n := 13) (g := kn f p) (g' := hd f p) (fun i hi => (h.2.2.1 p i hp hi).2.1)
  have h4 := sm_nn (n := 13) (g := kn f p) (fun i hi => (h.2.2.1 p i hp hi).1)
  omega
/-- where less is known than held, there are others -/
theorem V0.some {f : Nat → Int} (h : V0 f) {p k : Nat} (hp : p < 6) (hk : k < 13) : hd f p k - kn f p k ≤ f (229 + p) := by
  have h1 := h.2.2.2.1 p hp
  have h2 := sm_ge (n := 13) (g := fun i => hd f p i - kn f p i) (fun i hi => by have := h.2.2.1 p i hp hi; omega) hk
  have h3 : sm 13 (fun i => hd f p i - kn f p i) = sm 13 (hd f p) - sm 13 (kn f p) := by
    simp only [sm]
    omega
  try dsimp only at h2
  omega
/-- what stays of V0 where only others and known of one person and one kind move -/
theorem V0.lk {f f' : Nat → Int} (h : V0 f) {p k : Nat} {d : Int} (hp : p < 6) (hk : k < 13) (ho : f' (229 + p) = f (229 + p) - d) (hn : kn f' p k = kn f p k + d) (h0 : 0 ≤ kn f p k + d) (h1 : kn f p k + d ≤ hd f p k)
    (hs : ∀ i, ¬ IR i → i ≠ 229 + p → i ≠ 151 + 13 * p + k → f' i = f i) : V0 f' := by
  obtain ⟨hm, hh, hkk, hoo, hb, hd'⟩ := h
  have s' : ∀ i, ¬ i = 2 → ¬ i = 5 → (i < 151 ∨ 565 ≤ i) → f' i = f i := fun i a b c => hs i (nir a b (by omega)) (by omega) (by omega)
  have e0 : f' 0 = f 0 := s' 0 (by decide) (by decide) (by omega)
  have e1 : f' 1 = f 1 := s' 1 (by decide) (by decide) (by omega)
  have e3 : f' 3 = f 3 := s' 3 (by decide) (by decide) (by omega)
  have e7 : f' 7 = f 7 := s' 7 (by decide) (by decide) (by omega)
  have eH : ∀ q j, q < 6 → j < 13 → hd f' q j = hd f q j := fun q j hq hj => s' _ (by omega) (by omega) (by omega)
  have eK : ∀ q j, q < 6 → j < 13 → ¬ (q = p ∧ j = k) → kn f' q j = kn f q j := fun q j hq hj hne => hs _ (nir (by omega) (by omega) (by omega)) (by omega) (by omega)
  refine ⟨?_, ?_, ?_, ?_, ?_, ?_⟩
  · unfold VM; rw [e0, e1, e3, e7]; exact hm
  · intro i hi
    rw [e7] at hi
    rw [e0, s' (8 + i) (by omega) (by omega) (by have := hm.2.2.2.2; omega)]
    exact hh i hi
  · intro q j hq hj
    have a := hkk q j hq hj
    rw [eH q j hq hj, e0, e1]
    by_cases e : q = p ∧ j = k
    · obtain ⟨rfl, rfl⟩ := e
      rw [hn]
      exact ⟨h0, h1, a.2.2⟩
    · rw [eK q j hq hj e]
      exact a
  · intro q hq
    rw [sm_congr (g := hd f' q) (g' := hd f q) (fun i hi => eH q i hq hi)]
    have a := hoo q hq
    by_cases e : q = p
    · subst e
      rw [ho, sm_upd (g := kn f q) (g' := kn f' q) hk (fun i hi hne => eK q i hq hi (by omega)), hn]
      omega
    · rw [hs (229 + q) (nir (by omega) (by omega) (by omega)) (by omega) (by omega), sm_congr (g := kn f' q) (g' := kn f q) (fun i hi => eK q i hq hi (by omega))]
      exact a
  · intro j hj
    rw [s' (138 + j) (by omega) (by omega) (by omega), s' (571 + j) (by omega) (by omega) (by omega), e7, sm_congr (n := 6) (g := fun p => hd f' p j) (g' := fun p => hd f p j) (fun i hi => eH i j hi hj), ct_congr (fun i hi => s' (8 + i) (by omega) (by omega) (by have := hm.2.2.2.2; omega))]
    exact hb j hj
  · intro q hq
    rw [s' (565 + q) (by omega) (by omega) (by omega)]
    exact hd' q hq
/-- a book is laid: all four known, and away -/
theorem V0.bk {f f' : Nat → Int} (h : V0 f) {p k : Nat} (hp : p < 6) (hk : k < 13) (h4 : hd f p k = 4) (hk4 : kn f p k = 4) (hh : hd f' p k = 0) (hn : kn f' p k = 0) (hb : f' (138 + k) = p + 1)
    (hs : ∀ i, ¬ IR i → i ≠ 60 + 13 * p + k → i ≠ 151 + 13 * p + k → i ≠ 138 + k → f' i = f i) : V0 f' := by
  obtain ⟨hm, hhp, hkk, hoo, hbb, hd'⟩ := h
  have s' : ∀ i, ¬ i = 2 → ¬ i = 5 → (i < 60 ∨ 565 ≤ i) → f' i = f i := fun i a b c => hs i (nir a b (by omega)) (by omega) (by omega) (by omega)
  have e0 : f' 0 = f 0 := s' 0 (by decide) (by decide) (by omega)
  have e1 : f' 1 = f 1 := s' 1 (by decide) (by decide) (by omega)
  have e3 : f' 3 = f 3 := s' 3 (by decide) (by decide) (by omega)
  have e7 : f' 7 = f 7 := s' 7 (by decide) (by decide) (by omega)
  have eH : ∀ q j, q < 6 → j < 13 → ¬ (q = p ∧ j = k) → hd f' q j = hd f q j := fun q j hq hj hne => hs _ (nir (by omega) (by omega) (by omega)) (by omega) (by omega) (by omega)
  have eK : ∀ q j, q < 6 → j < 13 → ¬ (q = p ∧ j = k) → kn f' q j = kn f q j := fun q j hq hj hne => hs _ (nir (by omega) (by omega) (by omega)) (by omega) (by omega) (by omega)
  refine ⟨?_, ?_, ?_, ?_, ?_, ?_⟩
  · unfold VM; rw [e0, e1, e3, e7]; exact hm
  · intro i hi
    rw [e7] at hi
    rw [e0, s' (8 + i) (by omega) (by omega) (by have := hm.2.2.2.2; omega)]
    exact hhp i hi
  · intro q j hq hj
    have a := hkk q j hq hj
    rw [e0, e1]
    by_cases e : q = p ∧ j = k
    · obtain ⟨rfl, rfl⟩ := e
      rw [hn, hh]
      exact ⟨by omega, by omega, fun _ => rfl⟩
    · rw [eK q j hq hj e, eH q j hq hj e]
      exact a
  · intro q hq
    have a := hoo q hq
    rw [hs (229 + q) (nir (by omega) (by omega) (by omega)) (by omega) (by omega) (by omega)]
    by_cases e : q = p
    · subst e
      rw [sm_upd (g := kn f q) (g' := kn f' q) hk (fun i hi hne => eK q i hq hi (by omega)), hn, sm_upd (g := hd f q) (g' := hd f' q) hk (fun i hi hne => eH q i hq hi (by omega)), hh]
      omega
    · rw [sm_congr (g := kn f' q) (g' := kn f q) (fun i hi => eK q i hq hi (by omega)), sm_congr (g := hd f' q) (g' := hd f q) (fun i hi => eH q i hq hi (by omega))]
      exact a
  · intro j hj
    rw [s' (571 + j) (by omega) (by omega) (by omega), e7, ct_congr (fun i hi => s' (8 + i) (by omega) (by omega) (by have := hm.2.2.2.2; omega))]
    have a := hbb j hj
    by_cases e : j = k
    · subst e
      have hz : ¬ 0 < f (138 + j) := by
        intro hpos
        have a2 := a.2
        rw [if_pos hpos] at a2
        have c1 := sm_ge (n := 6) (g := fun p => hd f p j) (fun i hi => by have := hkk i j hi hj; omega) hp
        have c2 : 0 ≤ ct f (f 7).toNat j := sm_nn (fun i _ => by split <;> omega)
        try dsimp only at c1
        omega
      have a2 := a.2
      rw [if_neg hz] at a2
      rw [hb, if_pos (by omega), sm_upd (n := 6) (g := fun p => hd f p j) (g' := fun p => hd f' p j) hp (fun i hi hne => eH i j hi hj (by omega))]
      try dsimp only
      rw [hh, h4]
      exact ⟨⟨by omega, by omega, a.1.2.2⟩, by omega⟩
    · rw [hs (138 + j) (nir (by omega) (by omega) (by omega)) (by omega) (by omega) (by omega), sm_congr (n := 6) (g := fun p => hd f' p j) (g' := fun p => hd f p j) (fun i hi => eH i j hi hj (by omega))]
      exact a
  · intro q hq
    rw [s' (565 + q) (by omega) (by omega) (by omega)]
    exact hd' q hq
theorem sm_sh {n : Nat} {g : Nat → Int} : sm n (fun i => g (i + 1)) = sm (n + 1) g - g 0 := by
  induction n with
  | zero => simp [sm]
  | succ n ih =>
    have e : sm (n + 1) (fun i => g (i + 1)) = sm n (fun i => g (i + 1)) + g (n + 1) := rfl
    have e2 : sm (n + 1 + 1) g = sm (n + 1) g + g (n + 1) := rfl
    rw [e, ih, e2]
    omega
/-- a card is drawn, and it's one of the others, or it's known -/
theorem V0.dr {f f' : Nat → Int} (h : V0 f) {p c : Nat} (hp : p < 6) (hpp : (p : Int) < f 1) (h7 : 1 ≤ f 7) (hc : f 8 = c) (h7' : f' 7 = f 7 - 1) (hsh : ∀ i : Nat, (i : Int) < f 7 - 1 → f' (8 + i) = f (8 + i + 1)) (hh : hd f' p c = hd f p c + 1)
    (hk : (f' (229 + p) = f (229 + p) + 1 ∧ kn f' p c = kn f p c) ∨ (f' (229 + p) = f (229 + p) ∧ kn f' p c = kn f p c + 1)) (hdr : 0 ≤ f' (565 + p) ∧ f' (565 + p) ≤ 13)
    (hs : ∀ i, ¬ IR i → i ≠ 7 → ¬ (8 ≤ i ∧ i < 60) → i ≠ 60 + 13 * p + c → i ≠ 229 + p → i ≠ 151 + 13 * p + c → i ≠ 565 + p → f' i = f i) : V0 f' := by
  obtain ⟨hm, hhp, hkk, hoo, hbb, hd'⟩ := h
  have hc0 := hhp 0 (by omega)
  have hc13 : c < 13 ∧ (c : Int) < f 0 := by have := hm.1; simp only [Nat.add_zero] at hc0; omega
  have e0 : f' 0 = f 0 := hs 0 (nir (by decide) (by decide) (by omega)) (by omega) (by omega) (by omega) (by omega) (by omega) (by omega)
  have e1 : f' 1 = f 1 := hs 1 (nir (by decide) (by decide) (by omega)) (by omega) (by omega) (by omega) (by omega) (by omega) (by omega)
  have e3 : f' 3 = f 3 := hs 3 (nir (by decide) (by decide) (by omega)) (by omega) (by omega) (by omega) (by omega) (by omega) (by omega)
  have eH : ∀ q j, q < 6 → j < 13 → ¬ (q = p ∧ j = c) → hd f' q j = hd f q j := fun q j hq hj hne => hs _ (nir (by omega) (by omega) (by omega)) (by omega) (by omega) (by omega) (by omega) (by omega) (by omega)
  have eK : ∀ q j, q < 6 → j < 13 → ¬ (q = p ∧ j = c) → kn f' q j = kn f q j := fun q j hq hj hne => hs _ (nir (by omega) (by omega) (by omega)) (by omega) (by omega) (by omega) (by omega) (by omega) (by omega)
  have hm7 := hm.2.2.2
  refine ⟨?_, ?_, ?_, ?_, ?_, ?_⟩
  · unfold VM; rw [e0, e1, e3, h7']; exact ⟨hm.1, hm.2.1, hm.2.2.1, by omega⟩
  · intro i hi
    rw [h7'] at hi
    rw [e0, hsh i hi]
    exact hhp (i + 1) (by omega)
  · intro q j hq hj
    have a := hkk q j hq hj
    rw [e0, e1]
    by_cases e : q = p ∧ j = c
    · obtain ⟨rfl, rfl⟩ := e
      rw [hh]
      refine ⟨?_, ?_, fun hx => by omega⟩
      · rcases hk with hk | hk <;> rw [hk.2] <;> omega
      · rcases hk with hk | hk <;> rw [hk.2] <;> omega
    · rw [eK q j hq hj e, eH q j hq hj e]
      exact a
  · intro q hq
    have a := hoo q hq
    by_cases e : q = p
    · subst e
      rw [sm_upd (g := kn f q) (g' := kn f' q) hc13.1 (fun i hi hne => eK q i hq hi (by omega)), sm_upd (g := hd f q) (g' := hd f' q) hc13.1 (fun i hi hne => eH q i hq hi (by omega)), hh]
      rcases hk with hk | hk <;> rw [hk.1, hk.2] <;> omega
    · rw [hs (229 + q) (nir (by omega) (by omega) (by omega)) (by omega) (by omega) (by omega) (by omega) (by omega) (by omega), sm_congr (g := kn f' q) (g' := kn f q) (fun i hi => eK q i hq hi (by omega)), sm_congr (g := hd f' q) (g' := hd f q) (fun i hi => eH q i hq hi (by omega))]
      exact a
  · intro j hj
    rw [hs (571 + j) (nir (by omega) (by omega) (by omega)) (by omega) (by omega) (by omega) (by omega) (by omega) (by omega), hs (138 + j) (nir (by omega) (by omega) (by omega)) (by omega) (by omega) (by omega) (by omega) (by omega) (by omega)]
    have a := hbb j hj
    refine ⟨a.1, ?_⟩
    have en : (f 7).toNat = (f' 7).toNat + 1 := by omega
    have ec : ct f' (f' 7).toNat j = ct f (f 7).toNat j - (if f 8 = j then 1 else 0) := by
      unfold ct
      rw [en, ← sm_sh (g := fun i => if f (8 + i) = j then 1 else 0)]
      exact sm_congr (fun i hi => by rw [hsh i (by omega), Nat.add_assoc])
    have a2 := a.2
    rw [ec]
    by_cases e : j = c
    · subst e
      rw [sm_upd (n := 6) (g := fun p => hd f p j) (g' := fun p => hd f' p j) hp (fun i hi hne => eH i j hi hj (by omega)), if_pos hc]
      rw [hh]
      omega
    · rw [sm_congr (n := 6) (g := fun p => hd f' p j) (g' := fun p => hd f p j) (fun i hi => eH i j hi hj (by omega)), if_neg (by omega)]
      omega
  · intro q hq
    by_cases e : q = p
    · subst e; exact hdr
    · rw [hs (565 + q) (nir (by omega) (by omega) (by omega)) (by omega) (by omega) (by omega) (by omega) (by omega) (by omega)]
      exact hd' q hq
/-- all that b has of a kind goes to a, all of it known -/
theorem V0.gv {f f' : Nat → Int} (h : V0 f) {a b k : Nat} (ha : a < 6) (hb : b < 6) (hab : a ≠ b) (hk : k < 13) (hpa : (a : Int) < f 1) (hg : 0 < hd f b k) (hkb : kn f b k = hd f b k)
    (h1 : hd f' b k = 0) (h2 : kn f' b k = 0) (h3 : hd f' a k = hd f a k + hd f b k) (h4 : kn f' a k = kn f a k + hd f b k)
    (hs : ∀ i, ¬ IR i → i ≠ 60 + 13 * a + k → i ≠ 60 + 13 * b + k → i ≠ 151 + 13 * a + k → i ≠ 151 + 13 * b + k → f' i = f i) : V0 f' := by
  obtain ⟨hm, hhp, hkk, hoo, hbb, hd'⟩ := h
  have s' : ∀ i, ¬ i = 2 → ¬ i = 5 → (i < 60 ∨ (138 ≤ i ∧ i < 151) ∨ (229 ≤ i ∧ i < 235) ∨ 565 ≤ i) → f' i = f i := fun i a b c => hs i (nir a b (by omega)) (by omega) (by omega) (by omega) (by omega)
  have e0 : f' 0 = f 0 := s' 0 (by decide) (by decide) (by omega)
  have e1 : f' 1 = f 1 := s' 1 (by decide) (by decide) (by omega)
  have e3 : f' 3 = f 3 := s' 3 (by decide) (by decide) (by omega)
  have e7 : f' 7 = f 7 := s' 7 (by decide) (by decide) (by omega)
  have eH : ∀ q j, q < 6 → j < 13 → ¬ ((q = a ∨ q = b) ∧ j = k) → hd f' q j = hd f q j := fun q j hq hj hne => hs _ (nir (by omega) (by omega) (by omega)) (by omega) (by omega) (by omega) (by omega)
  have eK : ∀ q j, q < 6 → j < 13 → ¬ ((q = a ∨ q = b) ∧ j = k) → kn f' q j = kn f q j := fun q j hq hj hne => hs _ (nir (by omega) (by omega) (by omega)) (by omega) (by omega) (by omega) (by omega)
  have hk0 : (k : Int) < f 0 := by
    rcases Int.lt_or_le (k : Int) (f 0) with hlt | hge
    · exact hlt
    · have := (hkk b k hb hk).2.2 (Or.inr hge); omega
  have hab4 := hkk a k ha hk
  have hbb4 := hkk b k hb hk
  refine ⟨?_, ?_, ?_, ?_, ?_, ?_⟩
  · unfold VM; rw [e0, e1, e3, e7]; exact hm
  · intro i hi
    rw [e7] at hi
    rw [e0, s' (8 + i) (by omega) (by omega) (by have := hm.2.2.2.2; omega)]
    exact hhp i hi
  · intro q j hq hj
    have c := hkk q j hq hj
    rw [e0, e1]
    by_cases e : (q = a ∨ q = b) ∧ j = k
    · obtain ⟨e, rfl⟩ := e
      rcases e with rfl | rfl
      · rw [h3, h4]
        exact ⟨by omega, by omega, fun hx => by omega⟩
      · rw [h1, h2]
        exact ⟨by omega, by omega, fun _ => rfl⟩
    · rw [eK q j hq hj e, eH q j hq hj e]
      exact c
  · intro q hq
    have c := hoo q hq
    rw [s' (229 + q) (by omega) (by omega) (by omega)]
    by_cases e : q = a ∨ q = b
    · rw [sm_upd (g := kn f q) (g' := kn f' q) hk (fun i hi hne => eK q i hq hi (by omega)), sm_upd (g := hd f q) (g' := hd f' q) hk (fun i hi hne => eH q i hq hi (by omega))]
      rcases e with rfl | rfl
      · rw [h3, h4]; omega
      · rw [h1, h2]; omega
    · rw [sm_congr (g := kn f' q) (g' := kn f q) (fun i hi => eK q i hq hi (by omega)), sm_congr (g := hd f' q) (g' := hd f q) (fun i hi => eH q i hq hi (by omega))]
      exact c
  · intro j hj
    rw [s' (138 + j) (by omega) (by omega) (by omega), s' (571 + j) (by omega) (by omega) (by omega), e7, ct_congr (fun i hi => s' (8 + i) (by omega) (by omega) (by have := hm.2.2.2.2; omega))]
    have c := hbb j hj
    by_cases e : j = k
    · subst e
      have m1 := sm_upd (n := 6) (g := fun p => hd f p j) (g' := fun p => if p = a then hd f' p j else hd f p j) ha (fun i hi hne => if_neg hne)
      have m2 := sm_upd (n := 6) (g := fun p => if p = a then hd f' p j else hd f p j) (g' := fun p => hd f' p j) hb (fun i hi hne => by
        by_cases e2 : i = a
        · rw [if_pos e2]
        · rw [if_neg e2]; exact eH i j hi hj (by omega))
      rw [m2, m1]
      simp only [if_true, if_neg (Ne.symm hab)]
      rw [h1, h3]
      refine ⟨c.1, ?_⟩
      have c2 := c.2
      omega
    · rw [sm_congr (n := 6) (g := fun p => hd f' p j) (g' := fun p => hd f p j) (fun i hi => eH i j hi hj (by omega))]
      exact c
  · intro q hq
    rw [s' (565 + q) (by omega) (by omega) (by omega)]
    exact hd' q hq
/-- writing s while its picture is kept -/
theorem AG.pi {G : Nat → Int} {s : xS} (h : AG G (s 2)) {j : Nat} {v : Int} (h1 : 235 ≤ j) (h2 : j < 565) : AG G (xput s 2 j v 2) := fun i hi => by
  rw [xput_up, up_n (fun e => hi (by unfold IR; omega))]
  exact h i hi
theorem AG.p5 {G : Nat → Int} {s : xS} (h : AG G (s 2)) {v : Int} : AG G (xput s 2 5 v 2) := fun i hi => by
  rw [xput_up, up_n (fun e => hi (by unfold IR; omega))]
  exact h i hi
theorem AG.pu {G : Nat → Int} {s : xS} (h : AG G (s 2)) {j j' : Nat} {v v' : Int} (hj : j = j') (hv : v = v') : AG (up G j' v') (xput s 2 j v 2) := fun i hi => by
  subst hj
  subst hv
  rw [xput_up]
  by_cases e : i = j
  · rw [e, up_s, up_s]
  · rw [up_n e, up_n e]; exact h i hi
theorem AG.o {G : Nat → Int} {s : xS} (h : AG G (s 2)) {t j : Nat} {v : Int} (ht : 2 ≠ t) : AG G (xput s t j v 2) := by rw [xput_ne ht]; exact h
theorem AG.rd {G : Nat → Int} {s : xS} (h : AG G (s 2)) {v : Int} {j j' : Nat} (e : v = s 2 j) (hj : j = j') (h1 : ¬ j' = 2) (h2 : ¬ j' = 5) (h3 : j' < 235 ∨ 565 ≤ j') : v = G j' := by
  subst hj
  rw [e]
  exact h j (nir h1 h2 h3)
