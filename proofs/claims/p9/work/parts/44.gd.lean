/-! Drawing, and whose turn it is. -/
def DRW (f f' : Nat → Int) (p c : Nat) : Prop := f 8 = c ∧ f' 7 = f 7 - 1 ∧ (∀ i : Nat, (i : Int) < f 7 - 1 → f' (8 + i) = f (8 + i + 1)) ∧ hd f' p c = hd f p c + 1 ∧ f' (565 + p) = c + 1 ∧ (∀ i, ¬ IR i → i ≠ 7 → ¬ (8 ≤ i ∧ i < 60) → i ≠ 60 + 13 * p + c → i ≠ 565 + p → f' i = f i)
theorem DRW.mk {f g h : Nat → Int} {p c : Nat} (hp : p < 6) (hc13 : c < 13) (h52 : f 7 ≤ 52) (hc : f 8 = c) (h7 : g 7 = f 7 - 1) (hA : ∀ j : Nat, (j : Int) < f 7 - 1 → g (8 + j) = f (8 + j + 1)) (hB : ∀ j, j ≠ 7 → ¬ (8 ≤ j ∧ j < 60) → g j = f j) (a : AG (up g (60 + 13 * p + c) (g (60 + 13 * p + c) + 1)) h) : DRW f (up h (565 + p) (c + 1)) p c := by
  refine ⟨hc, ?_, fun i hi => ?_, ?_, up_s, fun i hi a1 a2 a3 a4 => ?_⟩
  · rw [up_n (by omega), a 7 (nir (by omega) (by omega) (by omega)), up_n (by omega), h7]
  · rw [up_n (by omega), a _ (nir (by omega) (by omega) (by omega)), up_n (by omega), hA i hi]
  · unfold hd
    rw [up_n (by omega), a _ (nir (by omega) (by omega) (by omega)), up_s, hB _ (by omega) (by omega)]
  · rw [up_n a4, a i hi, up_n a3, hB i a1 a2]
def LQ (f f' : Nat → Int) : Prop := ∀ i, (i < 7 ∨ 584 ≤ i) → i ≠ 2 → i ≠ 5 → f' i = f i
theorem LQ.rf {f : Nat → Int} : LQ f f := fun _ _ _ _ => rfl
theorem LQ.tr {f g h : Nat → Int} (a : LQ f g) (b : LQ g h) : LQ f h := fun i h1 h2 h3 => (b i h1 h2 h3).trans (a i h1 h2 h3)
theorem LO.q {f g : Nat → Int} (a : LO f g) : LQ f g := fun i h1 h2 h3 => a i (by omega) h2 h3
theorem V0.c8 {f : Nat → Int} (h : V0 f) (h7 : 1 ≤ f 7) : 0 ≤ f 8 ∧ f 8 < f 0 ∧ f 8 ≤ 12 := by
  have a := h.2.1 0 (by omega)
  have b := h.1.1
  simp only [Nat.add_zero] at a
  omega
theorem V0.drA {f g h : Nat → Int} (hV : V0 f) {p c : Nat} (hp : p < 6) (hpp : (p : Int) < f 1) (h7 : 1 ≤ f 7) (d : DRW f g p c) (a : AG (up g (229 + p) (g (229 + p) + 1)) h) : V0 h ∧ h 7 = f 7 - 1 ∧ LQ f h := by
  obtain ⟨d1, d2, d3, d4, d5, d6⟩ := d
  have c13 := hV.c8 h7
  have e7 : h 7 = f 7 - 1 := by rw [a 7 (nir (by omega) (by omega) (by omega)), up_n (by omega), d2]
  have m7 := hV.1.2.2.2
  have m0 := hV.1.1
  refine ⟨hV.dr (p := p) (c := c) hp hpp h7 d1 e7 (fun i hi => ?_) ?_ (Or.inl ⟨?_, ?_⟩) ?_ (fun i hi a1 a2 a3 a4 a5 a6 => ?_), e7, fun i a1 a2 a3 => ?_⟩
  · rw [a _ (nir (by omega) (by omega) (by omega)), up_n (by omega), d3 i hi]
  · unfold hd; rw [a _ (nir (by omega) (by omega) (by omega)), up_n (by omega)]; exact d4
  · rw [a _ (nir (by omega) (by omega) (by omega)), up_s, d6 _ (nir (by omega) (by omega) (by omega)) (by omega) (by omega) (by omega) (by omega)]
  · unfold kn; rw [a _ (nir (by omega) (by omega) (by omega)), up_n (by omega), d6 _ (nir (by omega) (by omega) (by omega)) (by omega) (by omega) (by omega) (by omega)]
  · rw [a _ (nir (by omega) (by omega) (by omega)), up_n (by omega), d5]; omega
  · rw [a i hi, up_n a4, d6 i hi a1 a2 a3 a6]
  · rw [a i (nir a2 a3 (by omega)), up_n (by omega), d6 i (nir a2 a3 (by omega)) (by omega) (by omega) (by omega) (by omega)]
theorem V0.drK {f g h : Nat → Int} (hV : V0 f) {p c : Nat} (hp : p < 6) (hpp : (p : Int) < f 1) (h7 : 1 ≤ f 7) (d : DRW f g p c) (a : AG (up g (151 + 13 * p + c) (g (151 + 13 * p + c) + 1)) h) : V0 h ∧ h 7 = f 7 - 1 ∧ LQ f h := by
  obtain ⟨d1, d2, d3, d4, d5, d6⟩ := d
  have c13 := hV.c8 h7
  have e7 : h 7 = f 7 - 1 := by rw [a 7 (nir (by omega) (by omega) (by omega)), up_n (by omega), d2]
  have m7 := hV.1.2.2.2
  have m0 := hV.1.1
  refine ⟨hV.dr (p := p) (c := c) hp hpp h7 d1 e7 (fun i hi => ?_) ?_ (Or.inr ⟨?_, ?_⟩) ?_ (fun i hi a1 a2 a3 a4 a5 a6 => ?_), e7, fun i a1 a2 a3 => ?_⟩
  · rw [a _ (nir (by omega) (by omega) (by omega)), up_n (by omega), d3 i hi]
  · unfold hd; rw [a _ (nir (by omega) (by omega) (by omega)), up_n (by omega)]; exact d4
  · rw [a _ (nir (by omega) (by omega) (by omega)), up_n (by omega), d6 _ (nir (by omega) (by omega) (by omega)) (by omega) (by omega) (by omega) (by omega)]
  · unfold kn; rw [a _ (nir (by omega) (by omega) (by omega)), up_s, d6 _ (nir (by omega) (by omega) (by omega)) (by omega) (by omega) (by omega) (by omega)]
  · rw [a _ (nir (by omega) (by omega) (by omega)), up_n (by omega), d5]; omega
  · rw [a i hi, up_n a5, d6 i hi a1 a2 a3 a6]
  · rw [a i (nir a2 a3 (by omega)), up_n (by omega), d6 i (nir a2 a3 (by omega)) (by omega) (by omega) (by omega) (by omega)]
theorem V0.o51 {f g : Nat → Int} (hV : V0 f) {p c : Nat} (hp : p < 6) (hpp : (p : Int) < f 1) (h7 : 1 ≤ f 7) (d : DRW f g p c) : 0 ≤ g (229 + p) ∧ g (229 + p) ≤ 51 := by
  have c13 := hV.c8 h7
  have m0 := hV.1.1
  have hc := d.1
  have a := (hV.drA hp hpp h7 d AG.rf).1.others hp
  rw [up_s] at a
  have b := hV.others hp
  rw [← d.2.2.2.2.2 _ (nir (by omega) (by omega) (by omega)) (by omega) (by omega) (by omega) (by omega)] at b
  omega
theorem V0.t4 {f f' : Nat → Int} (h : V0 f) (a : ∀ i, ¬ IR i → i ≠ 4 → i ≠ 6 → f' i = f i) : V0 f' := by
  have hA : AG (up (up f 4 (f' 4)) 6 (f' 6)) f' := fun i hi => by
    by_cases e : i = 6
    · rw [e, up_s]
    · rw [up_n e]
      by_cases e4 : i = 4
      · rw [e4, up_s]
      · rw [up_n e4]; exact a i hi e4 e
  refine V0.ag (f := up (up f 4 (f' 4)) 6 (f' 6)) ?_ hA
  obtain ⟨hm, hh, hk, ho, hb, hd'⟩ := h
  have s' : ∀ i, i ≠ 4 → i ≠ 6 → up (up f 4 (f' 4)) 6 (f' 6) i = f i := fun i a b => by rw [up_n b, up_n a]
  generalize up (up f 4 (f' 4)) 6 (f' 6) = g at s' ⊢
  have eH : ∀ p k, hd g p k = hd f p k := fun p k => s' _ (by omega) (by omega)
  have eK : ∀ p k, kn g p k = kn f p k := fun p k => s' _ (by omega) (by omega)
  refine ⟨?_, ?_, ?_, ?_, ?_, ?_⟩
  · unfold VM; rw [s' 0 (by omega) (by omega), s' 1 (by omega) (by omega), s' 3 (by omega) (by omega), s' 7 (by omega) (by omega)]; exact hm
  · intro i hi
    rw [s' 7 (by omega) (by omega)] at hi
    rw [s' 0 (by omega) (by omega), s' (8 + i) (by omega) (by omega)]
    exact hh i hi
  · intro p k hp hk'
    rw [eH, eK, s' 0 (by omega) (by omega), s' 1 (by omega) (by omega)]
    exact hk p k hp hk'
  · intro p hp
    rw [s' (229 + p) (by omega) (by omega), sm_congr (fun i hi => eK p i), sm_congr (fun i hi => eH p i)]
    exact ho p hp
  · intro k hk'
    rw [s' (138 + k) (by omega) (by omega), s' (571 + k) (by omega) (by omega), s' 7 (by omega) (by omega), sm_congr (n := 6) (g := fun p => hd g p k) (g' := fun p => hd f p k) (fun i hi => eH i k), ct_congr (fun i hi => s' (8 + i) (by omega) (by omega))]
    exact hb k hk'
  · intro p hp
    rw [s' (565 + p) (by omega) (by omega)]
    exact hd' p hp
/-- all but turn and askings stays, below the heap's size and behind the game -/
def L4 (f f' : Nat → Int) : Prop := ∀ i, (i < 7 ∨ 584 ≤ i) → i ≠ 2 → i ≠ 5 → i ≠ 4 → f' i = f i
theorem L4.rf {f : Nat → Int} : L4 f f := fun _ _ _ _ _ => rfl
theorem L4.tr {f g h : Nat → Int} (a : L4 f g) (b : L4 g h) : L4 f h := fun i h1 h2 h3 h4 => (b i h1 h2 h3 h4).trans (a i h1 h2 h3 h4)
theorem LQ.l4 {f g : Nat → Int} (a : LQ f g) : L4 f g := fun i h1 h2 h3 _ => a i h1 h2 h3
