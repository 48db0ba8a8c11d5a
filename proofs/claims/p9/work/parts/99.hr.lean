/-! Bents: what each asks, told so that there is one answer. -/
def HH (f : Nat → Int) (p k : Nat) : Int := f (60 + 13 * p + k)
def LKd (f : Nat → Int) (p : Nat) (r : Int) : Prop := (0 ≤ r ∧ r < 13) ∧ 0 < HH f p r.toNat ∧ ∀ j : Nat, (j : Int) < r → HH f p j = 0
def MH (f : Nat → Int) (p : Nat) (r : Int) : Prop := (0 ≤ r ∧ r < 13) ∧ (∀ j : Nat, j < 13 → HH f p j ≤ HH f p r.toNat) ∧ ∀ j : Nat, (j : Int) < r → HH f p j < HH f p r.toNat
def RC (f : Nat → Int) (p : Nat) (r : Int) : Prop := (0 ≤ r ∧ r < f 1 ∧ ¬ r = p) ∧ (∀ q : Nat, (q : Int) < f 1 → q ≠ p → cd f q ≤ cd f r.toNat) ∧ ∀ q : Nat, (q : Int) < r → q ≠ p → cd f q < cd f r.toNat
def SUR (f : Nat → Int) (p q k : Nat) : Prop := 0 < f (151 + 13 * q + k) ∧ 0 < HH f p k
def FSX (f : Nat → Int) (p : Nat) (r : Int) : Prop := (r = -1 ∧ ∀ q k : Nat, (q : Int) < f 1 → q ≠ p → k < 13 → ¬ SUR f p q k) ∨ ∃ q k : Nat, r = 100 * (q : Int) + k ∧ (q : Int) < f 1 ∧ q ≠ p ∧ k < 13 ∧ SUR f p q k ∧ ∀ q' k' : Nat, k' < 13 → q' ≠ p → (q' < q ∨ (q' = q ∧ k' < k)) → ¬ SUR f p q' k'
/-- the next with a card, from q on, d more to be looked at -/
def nwN (f : Nat → Int) (p q : Int) : Nat → Int
  | 0 => aft (f 1) p
  | d + 1 => if 0 < cd f q.toNat then q else nwN f p (aft (f 1) q) d
def nwF (f : Nat → Int) (p : Int) : Int := nwN f p (aft (f 1) p) (f 1 - 1).toNat
theorem nwN_s {f : Nat → Int} {p q : Int} {d : Nat} : nwN f p q (d + 1) = if 0 < cd f q.toNat then q else nwN f p (aft (f 1) q) d := rfl
def DRW1 (f : Nat → Int) (p : Nat) : Prop := 1 ≤ f (565 + p) ∧ 0 < HH f p (f (565 + p) - 1).toNat
def BNT (f : Nat → Int) (p : Nat) (rule r : Int) : Prop := (r = -1 ∧ (f 1 < 2 ∨ cd f p = 0)) ∨ ((2 ≤ f 1 ∧ 0 < cd f p) ∧ ((rule = 2 ∧ ∃ q k : Int, RC f p q ∧ MH f p k ∧ r = 100 * q + k) ∨ (rule = 1 ∧ FSX f p r ∧ ¬ r = -1) ∨ (((rule = 1 ∧ FSX f p (-1)) ∨ (¬ rule = 1 ∧ ¬ rule = 2)) ∧ ∃ k : Int, ((rule = 3 ∧ DRW1 f p ∧ k = f (565 + p) - 1) ∨ (¬ (rule = 3 ∧ DRW1 f p) ∧ LKd f p k)) ∧ r = 100 * nwF f p + k)))
theorem LKd.u {f : Nat → Int} {p : Nat} {r r' : Int} (h : LKd f p r) (h' : LKd f p r') : r = r' := by
  obtain ⟨a, b, c⟩ := h
  obtain ⟨a', b', c'⟩ := h'
  by_cases x : r < r'
  · have z := c' r.toNat (by omega); omega
  · by_cases y : r' < r
    · have z := c r'.toNat (by omega); omega
    · omega
theorem MH.u {f : Nat → Int} {p : Nat} {r r' : Int} (h : MH f p r) (h' : MH f p r') : r = r' := by
  obtain ⟨a, b, c⟩ := h
  obtain ⟨a', b', c'⟩ := h'
  by_cases x : r < r'
  · have z := c' r.toNat (by omega); have w := b r'.toNat (by omega); omega
  · by_cases y : r' < r
    · have z := c r'.toNat (by omega); have w := b' r.toNat (by omega); omega
    · omega
theorem RC.u {f : Nat → Int} {p : Nat} {r r' : Int} (h : RC f p r) (h' : RC f p r') : r = r' := by
  obtain ⟨a, b, c⟩ := h
  obtain ⟨a', b', c'⟩ := h'
  by_cases x : r < r'
  · have z := c' r.toNat (by omega) (by omega); have w := b r'.toNat (by omega) (by omega); omega
  · by_cases y : r' < r
    · have z := c r'.toNat (by omega) (by omega); have w := b' r.toNat (by omega) (by omega); omega
    · omega
theorem FSX.u {f : Nat → Int} {p : Nat} {r r' : Int} (h : FSX f p r) (h' : FSX f p r') : r = r' := by
  rcases h with ⟨a, b⟩ | ⟨q, k, a, b, c, d, e, g⟩
  · rcases h' with ⟨a', _⟩ | ⟨q', k', a', b', c', d', e', _⟩
    · omega
    · exact absurd e' (b q' k' b' c' d')
  · rcases h' with ⟨a', b'⟩ | ⟨q', k', a', b', c', d', e', g'⟩
    · exact absurd e (b' q k b c d)
    · by_cases x : q < q' ∨ (q = q' ∧ k < k')
      · exact absurd e (g' q k d c x)
      · by_cases y : q' < q ∨ (q' = q ∧ k' < k)
        · exact absurd e' (g q' k' d' c' y)
        · have e1 : q = q' := by omega
          have e2 : k = k' := by omega
          rw [a, a', e1, e2]
theorem BNT.u {f : Nat → Int} {p : Nat} {rule r r' : Int} (h : BNT f p rule r) (h' : BNT f p rule r') : r = r' := by
  rcases h with ⟨a, b⟩ | ⟨n, h⟩
  · rcases h' with ⟨a', _⟩ | ⟨n', h'⟩
    · omega
    · clear h'; omega
  · rcases h' with ⟨a', b'⟩ | ⟨_, h'⟩
    · clear h; omega
    · rcases h with ⟨x, q, k, h1, h2, h3⟩ | ⟨x, h1, h2⟩ | ⟨x, k, h1, h2⟩
      · rcases h' with ⟨x', q', k', h1', h2', h3'⟩ | ⟨x', _⟩ | ⟨x', _⟩
        · rw [h3, h3', h1.u h1', h2.u h2']
        · omega
        · omega
      · rcases h' with ⟨x', _⟩ | ⟨x', h1', h2'⟩ | ⟨x', _⟩
        · omega
        · exact h1.u h1'
        · rcases x' with ⟨_, y⟩ | y
          · exact absurd (h1.u y) h2
          · omega
      · rcases h' with ⟨x', _⟩ | ⟨x', h1', h2'⟩ | ⟨x', k', h1', h2'⟩
        · omega
        · rcases x with ⟨_, y⟩ | y
          · exact absurd (h1'.u y) h2'
          · omega
        · rw [h2, h2']
          rcases h1 with ⟨y1, y2, y3⟩ | ⟨y1, y2⟩
          · rcases h1' with ⟨_, _, z3⟩ | ⟨z1, _⟩
            · rw [y3, z3]
            · exact absurd ⟨y1, y2⟩ z1
          · rcases h1' with ⟨z1, z2, _⟩ | ⟨_, z2⟩
            · exact absurd ⟨z1, z2⟩ y1
            · rw [y2.u z2]
noncomputable def bentF (f : Nat → Int) (p : Nat) (rule : Int) : Int := Classical.epsilon (BNT f p rule)
theorem BNT.e {f : Nat → Int} {p : Nat} {rule r : Int} (h : BNT f p rule r) : r = bentF f p rule := h.u (Classical.epsilon_spec (p := BNT f p rule) ⟨r, h⟩)
theorem cd_z {f : Nat → Int} {p : Nat} (h : ∀ j, j < 13 → HH f p j = 0) : cd f p = 0 := by
  show sm 13 (hd f p) = 0
  rw [sm_congr (g := hd f p) (g' := fun _ => (0 : Int)) (fun i hi => h i hi)]
  decide
theorem cd_p {f : Nat → Int} (hV : V0 f) {p : Nat} (hp : p < 6) (h : ¬ cd f p = 0) : ∃ j, j < 13 ∧ 0 < HH f p j := by
  by_cases c : ∃ j, j < 13 ∧ 0 < HH f p j
  · exact c
  · exact absurd (cd_z (fun j hj => by
      have a := (hV.hand hp hj).1
      have b : ¬ 0 < HH f p j := fun z => c ⟨j, hj, z⟩
      have e : hd f p j = HH f p j := rfl
      omega)) h
/-- the next is another one -/
theorem nwN_r {f : Nat → Int} {p : Int} (h2 : 2 ≤ f 1) (hp : 0 ≤ p ∧ p < f 1) : ∀ (d : Nat) (i : Int), 1 ≤ i → i + d = f 1 → (0 ≤ nwN f p ((p + i) % f 1) d ∧ nwN f p ((p + i) % f 1) d < f 1) ∧ ¬ nwN f p ((p + i) % f 1) d = p
  | 0, i, _, _ => by
    show (0 ≤ aft (f 1) p ∧ aft (f 1) p < f 1) ∧ ¬ aft (f 1) p = p
    refine ⟨aft_r hp.1 (by omega), ?_⟩
    unfold aft
    split <;> omega
  | d + 1, i, h1, hi => by
    have n := Int.emod_nonneg (p + i) (show f 1 ≠ 0 by omega)
    have l := Int.emod_lt_of_pos (p + i) (show 0 < f 1 by omega)
    rw [nwN_s]
    by_cases c : 0 < cd f ((p + i) % f 1).toNat
    · rw [if_pos c]
      refine ⟨⟨n, l⟩, fun e => ?_⟩
      by_cases x : p + i < f 1
      · rw [Int.emod_eq_of_lt (by omega) x] at e; omega
      · have y : (p + i) % f 1 = p + i - f 1 := by
          rw [← Int.emod_eq_of_lt (a := p + i - f 1) (b := f 1) (by omega) (by omega), Int.sub_emod_right]
        omega
    · rw [if_neg c, aft_mod (by omega) (by omega), show p + i + 1 = p + (i + 1) from by omega]
      exact nwN_r h2 hp d (i + 1) (by omega) (by omega)
theorem nwF_e {f : Nat → Int} {p : Int} (h2 : 2 ≤ f 1) (hp : 0 ≤ p ∧ p < f 1) : nwF f p = nwN f p ((p + 1) % f 1) (f 1 - 1).toNat := by
  unfold nwF
  have z := aft_mod (n := f 1) (x := p) hp.1 (by omega)
  rw [Int.emod_eq_of_lt hp.1 hp.2] at z
  rw [z]
theorem nwF_r {f : Nat → Int} {p : Int} (h2 : 2 ≤ f 1) (hp : 0 ≤ p ∧ p < f 1) : (0 ≤ nwF f p ∧ nwF f p < f 1) ∧ ¬ nwF f p = p := by
  rw [nwF_e h2 hp]
  exact nwN_r h2 hp _ 1 (by omega) (by omega)
/-- who has a card asks another for what he has -/
theorem BNT.ok {f : Nat → Int} {p : Nat} {rule r : Int} (h : BNT f p rule r) (hV : V0 f) (hp : (p : Int) < f 1) (hn : ¬ r = -1) : (0 ≤ r / 100 ∧ r / 100 < f 1 ∧ ¬ r / 100 = p) ∧ (0 ≤ r % 100 ∧ r % 100 ≤ 12) ∧ 0 < HH f p (r % 100).toNat := by
  have m := hV.1.2.1
  rcases h with ⟨a, _⟩ | ⟨n, h⟩
  · exact absurd a hn
  · rcases h with ⟨x, q, k, h1, h2, h3⟩ | ⟨x, h1, h2⟩ | ⟨x, k, h1, h2⟩
    · obtain ⟨⟨a1, a2, a3⟩, _, _⟩ := h1
      obtain ⟨⟨b1, b2⟩, b3, _⟩ := h2
      have e1 : r / 100 = q := by omega
      have e2 : r % 100 = k := by omega
      obtain ⟨j, j1, j2⟩ := cd_p hV (p := p) (by omega) (by omega)
      have := b3 j j1
      rw [e1, e2]
      exact ⟨⟨a1, a2, a3⟩, by omega, by omega⟩
    · rcases h1 with ⟨a, _⟩ | ⟨q, k, a, b, c, d, e, _⟩
      · exact absurd a h2
      · have e1 : r / 100 = q := by omega
        have e2 : r % 100 = k := by omega
        rw [e1, e2]
        exact ⟨⟨by omega, b, by omega⟩, by omega, e.2⟩
    · have w := nwF_r (f := f) (p := (p : Int)) (by omega) ⟨by omega, hp⟩
      have hk : (0 ≤ k ∧ k ≤ 12) ∧ 0 < HH f p k.toNat := by
        rcases h1 with ⟨_, y2, y3⟩ | ⟨_, y2⟩
        · have dd := hV.2.2.2.2.2 p (by omega)
          rw [y3]
          exact ⟨by have := y2.1; omega, y2.2⟩
        · exact ⟨by have := y2.1; omega, y2.2.1⟩
      have e1 : r / 100 = nwF f p := by omega
      have e2 : r % 100 = k := by omega
      rw [e1, e2]
      exact ⟨⟨w.1.1, w.1.2, w.2⟩, hk.1, hk.2⟩

