/-! The law's invariant on the game in full. -/
theorem V0.c5 {f f' : Nat → Int} (h : V0 f) (a : ∀ i, i < 584 → f' i = f i) : V0 f' := by
  obtain ⟨hm, hh, hk, ho, hb, hd'⟩ := h
  have e0 : f' 0 = f 0 := a 0 (by omega)
  have e1 : f' 1 = f 1 := a 1 (by omega)
  have e3 : f' 3 = f 3 := a 3 (by omega)
  have e7 : f' 7 = f 7 := a 7 (by omega)
  have eH : ∀ p k, p < 6 → k < 13 → hd f' p k = hd f p k := fun p k hp hk => a _ (by omega)
  have eK : ∀ p k, p < 6 → k < 13 → kn f' p k = kn f p k := fun p k hp hk => a _ (by omega)
  refine ⟨?_, ?_, ?_, ?_, ?_, ?_⟩
  · unfold VM; rw [e0, e1, e3, e7]; exact hm
  · intro i hi
    rw [e7] at hi
    rw [e0, a (8 + i) (by have := hm.2.2.2.2; omega)]
    exact hh i hi
  · intro p k hp hk'
    rw [eH p k hp hk', eK p k hp hk', e0, e1]
    exact hk p k hp hk'
  · intro p hp
    rw [a (229 + p) (by omega), sm_congr (fun i hi => eK p i hp hi), sm_congr (fun i hi => eH p i hp hi)]
    exact ho p hp
  · intro k hk'
    rw [a (138 + k) (by omega), a (571 + k) (by omega), e7, sm_congr (n := 6) (g := fun p => hd f' p k) (g' := fun p => hd f p k) (fun i hi => eH i k hi hk'), ct_congr (fun i hi => a (8 + i) (by have := hm.2.2.2.2; omega))]
    exact hb k hk'
  · intro p hp
    rw [a (565 + p) (by omega)]
    exact hd' p hp
theorem VX.c5 {f g : Nat → Int} (h : VX f) (e : ∀ i, i < 584 → g i = f i) : VX g := ⟨h.1.c5 e, fun p i hp hi => by
  have z := h.1.others hp
  rw [e (229 + p) (by omega)] at hi
  rw [e (235 + 52 * p + i) (by omega)]
  exact h.2 p i hp hi⟩
theorem PZ.c5 {f g : Nat → Int} (h : PZ f) (e : ∀ i, i < 584 → g i = f i) : PZ g := fun q hq h0 => by
  rw [e (571 + q) (by omega)]
  exact h q hq (by rw [← e 0 (by omega)]; exact h0)
theorem cd_c5 {f g : Nat → Int} {p : Nat} (hp : p < 6) (e : ∀ i, i < 584 → g i = f i) : cd g p = cd f p := sm_congr (fun k hk => e _ (by omega))
theorem TV.c5 {f g : Nat → Int} (h : TV f) (e : ∀ i, i < 584 → g i = f i) : TV g := by
  obtain ⟨v, a, b, c⟩ := h
  have m1 := v.1.1.2.1
  refine ⟨v.c5 e, by rw [e 2 (by omega)]; exact a, by rw [e 6 (by omega), e 1 (by omega)]; exact b, ?_⟩
  rw [e 4 (by omega), e 1 (by omega), e 6 (by omega)]
  rcases c with c | ⟨c, d⟩
  · exact Or.inl c
  · exact Or.inr ⟨⟨c.1, c.2.1, by rw [cd_c5 (by omega) e]; exact c.2.2⟩, d⟩
theorem GR.c5 {σ : xS} {f g : Nat → Int} (H : GR σ f) (e : ∀ i, i < 584 → g i = f i) : GR σ g := by
  obtain ⟨hM, hC, ⟨hH, h7⟩, ⟨⟨n0, o1, o2⟩, n5⟩, hX⟩ := H
  have e7 : g 7 = f 7 := e 7 (by omega)
  refine ⟨fun i t j c h => ?_, fun p hp => ?_, ⟨⟨⟨hH.1.1, by rw [e7]; exact hH.1.2⟩, fun i hi => ?_⟩, by rw [e7]; exact h7⟩, ⟨⟨n0, fun p hp => ?_, fun i hi => ?_⟩, n5⟩, hX⟩
  · rw [e i (by have := mp_e h; omega)]; exact hM i t j c h
  · rw [hC p hp]; exact sm_congr (fun k hk => (e _ (by omega)).symm)
  · rw [e7] at hi
    rw [e (8 + i) (by omega)]; exact hH.2 i hi
  · rw [e (229 + p) (by omega)]; exact o1 p hp
  · obtain ⟨p, hp, a, b⟩ := o2 i hi
    have z := rk_nn (h := σ 11) (p := p) i
    exact ⟨p, hp, a, by rw [e _ (by omega)]; exact b⟩
theorem gmC.c5 {a : Nat} {σ : xS} {f g : Nat → Int} (h : gmC a σ f) (e : ∀ i, i < 584 → g i = f i) : gmC a σ g := ⟨h.1.c5 e, h.2.trans (e 4 (by omega)).symm⟩
/-- a game between two calls -/
def VST (f : Nat → Int) : Prop := TV f ∧ PZ f
theorem VST.c5 {f g : Nat → Int} (h : VST f) (e : ∀ i, i < 584 → g i = f i) : VST g := ⟨h.1.c5 e, h.2.c5 e⟩
theorem VST.to {f g : Nat → Int} (h : VST f) (t : TV g) (e : ∀ i, i < 4 ∨ 571 ≤ i → g i = f i) : VST g := ⟨t, h.2.q (fun i hi => e i (by omega))⟩
theorem NMR.cg {a b a' b' : Nat → Int} {n : Int} (h : NMR a b n) (ea : ∀ q : Nat, (q : Int) < n → a' q = a q) (eb : ∀ q : Nat, (q : Int) < n → b' q = b q) : NMR a' b' n := fun q hq => by
  rw [ea q hq, eb q hq]; exact h q hq
/-- block j of the reference's kept games, as a row -/
def bkR (f u : Nat → Int) (j : Nat) : Nat → Int := fun q => if q < 4 ∨ 584 ≤ q then f q else u (580 * j + (q - 4))
/-- where the class keeps it -/
def rix (top m : Int) (j : Nat) : Nat := ((top - m + j + 8) % 8).toNat
theorem rix_lt {top m : Int} {j : Nat} : rix top m j < 8 := by unfold rix; omega
def PASTL (w : Nat → Bool) (σ : xS) (u : Nat → Int) (m : Int) (f : Nat → Int) : Prop := σ 39 2 = m ∧ (0 ≤ m ∧ m ≤ 8) ∧ (0 ≤ σ 39 1 ∧ σ 39 1 ≤ 7) ∧ ∀ j : Nat, (j : Int) < m → w (1 + rix (σ 39 1) m j) = true ∧ gmC (47 + 13 * rix (σ 39 1) m j) σ (bkR f u j) ∧ VST (bkR f u j) ∧ ∀ i : Nat, i < 6 → σ (47 + 13 * rix (σ 39 1) m j + 1) i = σ 3 i
def IMGL (σ : xS) (g nm kp : Nat → Int) : Prop := ∀ k : Nat, k < 2 → ¬ kp k = 0 → gmC (151 + 13 * k) σ (fun q => g (765 * k + q)) ∧ VST (fun q => g (765 * k + q)) ∧ NMR (σ (151 + 13 * k + 1)) (fun q => nm (6 * k + q)) (g (765 * k + 1))
def LATL (σ : xS) (has : Int) (r : Nat → Int) : Prop := (has = 0 ∧ ∀ i : Nat, i < 8 → σ 43 i = -1) ∨ (¬ has = 0 ∧ ∀ i : Nat, i < 8 → σ 43 i = r i)
/-- the game, what is kept, the images and the last asking: the class's and the reference's -/
def GL (w : Nat → Bool) (σ ς : xS) : Prop := (gmC 2 σ (ς 2) ∧ VST (ς 2) ∧ NMR (σ 3) (ς 5) (ς 2 1)) ∧ PASTL w σ (ς 8) (ς 0 27) (ς 2) ∧ IMGL σ (ς 25) (ς 26) (ς 27) ∧ LATL σ (ς 0 24) (ς 7)
theorem PASTL.f {w : Nat → Bool} {σ : xS} {u : Nat → Int} {m : Int} {f f' : Nat → Int} (h : PASTL w σ u m f) (e : ∀ q, q < 4 → f' q = f q) : PASTL w σ u m f' := by
  obtain ⟨a, b, c, d⟩ := h
  refine ⟨a, b, c, fun j hj => ?_⟩
  obtain ⟨d1, d2, d3, d4⟩ := d j hj
  have eb : ∀ q, q < 584 → bkR f' u j q = bkR f u j q := fun q hq => by
    unfold bkR
    by_cases x : q < 4 ∨ 584 ≤ q
    · rw [if_pos x, if_pos x]; exact e q (by omega)
    · rw [if_neg x, if_neg x]
  exact ⟨d1, d2.c5 eb, d3.c5 eb, d4⟩
theorem PASTL.z {w : Nat → Bool} {σ : xS} {u f : Nat → Int} (h1 : σ 39 2 = 0) (h2 : 0 ≤ σ 39 1 ∧ σ 39 1 ≤ 7) : PASTL w σ u 0 f := ⟨h1, by omega, h2, fun j hj => by omega⟩
/-- the class keeps a game alone -/
theorem PASTL.same {w w' : Nat → Bool} {σ σ' : xS} {u : Nat → Int} {m : Int} {f : Nat → Int} (h : PASTL w σ u m f) (e39 : σ' 39 = σ 39) (e3 : ∀ i : Nat, i < 6 → σ' 3 i = σ 3 i) (e47 : ∀ t, 47 ≤ t → t < 151 → σ' t = σ t) (ew : ∀ c, 1 ≤ c → c ≤ 8 → w' c = w c) : PASTL w' σ' u m f := by
  obtain ⟨a, b, c, d⟩ := h
  refine ⟨by rw [e39]; exact a, b, by rw [e39]; exact c, fun j hj => ?_⟩
  obtain ⟨d1, d2, d3, d4⟩ := d j hj
  have hx := rix_lt (top := σ 39 1) (m := m) (j := j)
  rw [e39]
  refine ⟨(ew _ (by omega) (by omega)).trans d1, d2.eq (fun t h1 h2 => e47 t (by omega) (by omega)), d3, fun i hi => ?_⟩
  rw [e47 _ (by omega) (by omega), e3 i hi]; exact d4 i hi
theorem blk_kg {t x : Nat} (hx : x < 8) (h1 : 47 + 13 * x ≤ t) (h2 : t < 47 + 13 * x + 13) : blkV t = 1 + x := by
  unfold blkV
  split <;> (try split) <;> (try split) <;> (try split) <;> (try split) <;> (try split) <;> omega
theorem blk_hi {t : Nat} (h : 151 ≤ t) : 9 ≤ blkV t := by
  unfold blkV
  split <;> (try split) <;> (try split) <;> (try split) <;> (try split) <;> (try split) <;> omega
theorem PASTL.keep {w w' : Nat → Bool} {σ σ' : xS} {u u' : Nat → Int} {m m' : Int} {f f' : Nat → Int} (h : PASTL w σ u m f) (hf : VST f) (k : kpG w σ w' σ' f) (kp : KPT m m' u u' f) (e : ∀ q, q < 4 → f' q = f q) (e3 : ∀ i : Nat, i < 6 → σ' 3 i = σ 3 i) : PASTL w' σ' u' m' f' := by
  obtain ⟨i, hi, ht, w1, w2, s1, ⟨g1, g2⟩, tp, sz⟩ := k
  obtain ⟨h1, h2, h3, h4⟩ := h
  have hm : (m < 8 ∧ m' = m + 1) ∨ (m = 8 ∧ m' = 8) := by
    rcases kp with q | q
    · exact Or.inl ⟨q.1, q.2.1⟩
    · exact Or.inr ⟨q.1, q.2.1⟩
  refine ⟨by omega, by omega, by omega, fun j hj => ?_⟩
  by_cases hl : (j : Int) = m' - 1
  · have hx : rix (σ' 39 1) m' j = i := by unfold rix; omega
    have er : ∀ q, q < 584 → bkR f' u' j q = f q := fun q hq => by
      unfold bkR
      by_cases c : q < 4 ∨ 584 ≤ q
      · rw [if_pos c]; exact e q (by omega)
      · rw [if_neg c]
        rcases kp with ⟨k1, k2, k3, k4⟩ | ⟨k1, k2, k3, k4⟩
        · have z := k4 (q - 4) (by omega)
          rw [show 580 * m.toNat + (q - 4) = 580 * j + (q - 4) from by omega, show 4 + (q - 4) = q from by omega] at z
          exact z
        · have z := k4 (q - 4) (by omega)
          rw [show 4060 + (q - 4) = 580 * j + (q - 4) from by omega, show 4 + (q - 4) = q from by omega] at z
          exact z
    rw [hx]
    exact ⟨w1, g1.c5 er, hf.c5 er, fun i2 hi2 => by rw [g2 i2 hi2, e3 i2 hi2]⟩
  · obtain ⟨j2, hj2, hr, hne, eb⟩ : ∃ j2 : Nat, (j2 : Int) < m ∧ rix (σ' 39 1) m' j = rix (σ 39 1) m j2 ∧ rix (σ 39 1) m j2 ≠ i ∧ ∀ q, q < 584 → bkR f' u' j q = bkR f u j2 q := by
      rcases kp with ⟨k1, k2, k3, k4⟩ | ⟨k1, k2, k3, k4⟩
      · refine ⟨j, by omega, by unfold rix; omega, by unfold rix; omega, fun q hq => ?_⟩
        unfold bkR
        by_cases c : q < 4 ∨ 584 ≤ q
        · rw [if_pos c, if_pos c]; exact e q (by omega)
        · rw [if_neg c, if_neg c]; exact k3 _ (by omega)
      · refine ⟨j + 1, by omega, by unfold rix; omega, by unfold rix; omega, fun q hq => ?_⟩
        unfold bkR
        by_cases c : q < 4 ∨ 584 ≤ q
        · rw [if_pos c, if_pos c]; exact e q (by omega)
        · rw [if_neg c, if_neg c, k3 _ (by omega), show 580 * j + (q - 4) + 580 = 580 * (j + 1) + (q - 4) from by omega]
    obtain ⟨a1, a2, a3, a4⟩ := h4 j2 hj2
    have hlt := rix_lt (top := σ 39 1) (m := m) (j := j2)
    have eb0 : ∀ t, 47 + 13 * rix (σ 39 1) m j2 ≤ t → t < 47 + 13 * rix (σ 39 1) m j2 + 13 → σ' t = σ t := fun t p q => s1 t (by omega) (by rw [blk_kg hlt p q]; omega)
    rw [hr]
    exact ⟨(w2 _ (by omega)).trans a1, (a2.eq eb0).c5 eb, a3.c5 eb, fun i2 hi2 => by rw [eb0 _ (by omega) (by omega), a4 i2 hi2, e3 i2 hi2]⟩
theorem IMGL.same {σ σ' : xS} {g nm kp : Nat → Int} (h : IMGL σ g nm kp) (e : ∀ t, 151 ≤ t → t < 177 → σ' t = σ t) : IMGL σ' g nm kp := fun k hk hn => by
  obtain ⟨c1, c2, c3⟩ := h k hk hn
  exact ⟨c1.eq (fun t h1 h2 => e t (by omega) (by omega)), c2, by rw [e _ (by omega) (by omega)]; exact c3⟩
theorem kpG.hi {w w' : Nat → Bool} {σ σ' : xS} {f : Nat → Int} (k : kpG w σ w' σ' f) : ∀ t, 151 ≤ t → σ' t = σ t := fun t ht => by
  obtain ⟨i, hi, _, _, _, s1, _⟩ := k
  exact s1 t (by omega) (by have := blk_hi ht; omega)
/-- behind a call of the class that leaves all this alone -/
theorem GL.cls {w w' : Nat → Bool} {σ σ' ς : xS} (h : GL w σ ς) (s : STW w w' σ σ') : GL w' σ' ς := by
  obtain ⟨⟨a1, a2, a3⟩, b, c, d⟩ := h
  obtain ⟨s1, s2⟩ := s
  refine ⟨⟨a1.eq (fun t h1 h2 => s1 t (by omega)), a2, by rw [s1 3 (by omega)]; exact a3⟩, b.same (s1 39 (by omega)) (fun i _ => congrFun (s1 3 (by omega)) i) (fun t h1 h2 => s1 t (by omega)) (fun x h1 h2 => s2 x h1 (by omega)), c.same (fun t h1 h2 => s1 t (by omega)), ?_⟩
  unfold LATL
  rw [s1 43 (by omega)]; exact d
theorem STW.all {w : Nat → Bool} {σ σ' : xS} (h : ∀ t, σ' t = σ t) : STW w w σ σ' := ⟨fun u _ => h u, fun _ _ _ => rfl⟩
theorem STW.st {w : Nat → Bool} {σ σ' : xS} (h : STC σ σ') : STW w w σ σ' := ⟨h, fun _ _ _ => rfl⟩
/-- behind a call of the reference that leaves it alone; the row may change from 584 on, the names from 6 on -/
theorem GL.rr {w : Nat → Bool} {σ ς ς' : xS} (h : GL w σ ς) (e2 : ∀ i, i < 584 → ς' 2 i = ς 2 i) (e5 : ∀ q : Nat, q < 6 → ς' 5 q = ς 5 q) (e7 : ς' 7 = ς 7) (e8 : ς' 8 = ς 8) (e25 : ς' 25 = ς 25) (e26 : ς' 26 = ς 26) (e27 : ς' 27 = ς 27) (e24 : ς' 0 24 = ς 0 24) (e0 : ς' 0 27 = ς 0 27) : GL w σ ς' := by
  obtain ⟨⟨a1, a2, a3⟩, b, c, d⟩ := h
  have m1 := a2.1.1.1.1.2.1
  refine ⟨⟨a1.c5 e2, a2.c5 e2, ?_⟩, ?_, ?_, ?_⟩
  · rw [e2 1 (by omega)]
    exact a3.cg (fun _ _ => rfl) (fun q hq => e5 q (by omega))
  · rw [e8, e0]
    exact b.f (fun q hq => e2 q (by omega))
  · rw [e25, e26, e27]; exact c
  · rw [e24, e7]; exact d
theorem GL.ks {w : Nat → Bool} {σ ς ς' : xS} (h : GL w σ ς) (k : RKs ς ς') : GL w σ ς' := by
  obtain ⟨_, _, k27, ⟨_, _, k5⟩, ⟨k2, k7, k8, _, _, k25, k26⟩, _, k24, k0, _⟩ := k
  exact h.rr (fun i _ => congrFun k2 i) (fun q _ => congrFun k5 q) k7 k8 k25 k26 k27 k24 k0
theorem GL.zs {w : Nat → Bool} {σ ς ς' : xS} (h : GL w σ ς) (k : RZS ς ς') : GL w σ ς' := by
  obtain ⟨_, f, e⟩ := k
  exact h.rr e (fun q _ => congrFun (f.1 5 (by decide) (by decide)) q) (f.1 7 (by decide) (by decide)) (f.1 8 (by decide) (by decide)) (f.1 25 (by decide) (by decide)) (f.1 26 (by decide) (by decide)) (f.1 27 (by decide) (by decide)) (f.2 24 (by decide)) (f.2 27 (by decide))
theorem GL.sm {w : Nat → Bool} {σ ς ς' : xS} (h : GL w σ ς) (k : SAMEx ς ς') (e5 : ς' 5 = ς 5) (e25 : ς' 25 = ς 25) (e26 : ς' 26 = ς 26) (e27 : ς' 27 = ς 27) : GL w σ ς' := h.rr (fun i _ => congrFun k.1 i) (fun q _ => congrFun e5 q) k.2.1 k.2.2.1 e25 e26 e27 k.2.2.2.1 k.2.2.2.2
theorem VST.ask {f : Nat → Int} {p q kind lies : Int} (h : VST f) (a : ASK f p q kind) (hw : whyF f p q kind.toNat = 0) : VST (askF f p.toNat q.toNat kind.toNat lies) ∧ ∀ i, i < 4 ∨ 571 ≤ i → askF f p.toNat q.toNat kind.toNat lies i = f i := by
  obtain ⟨y1, y2, y3, y4⟩ := whyF_0 hw
  obtain ⟨a1, a2, a3⟩ := a
  have m0 := h.1.1.1.1.1
  have m1 := h.1.1.1.1.2.1
  have hh := (HH_v h.1.1.1 (p := p.toNat) (k := kind.toNat) (by omega) (by omega)).1
  have z := TV.ask (lies := lies) h.1 (a := p.toNat) (b := q.toNat) (kind := kind.toNat) (by omega) (by omega) (by omega) (by omega) y1 (by
    have : HH f p.toNat kind.toNat = f (60 + 13 * p.toNat + kind.toNat) := rfl
    omega)
  exact ⟨h.to z.1 z.2, z.2⟩
