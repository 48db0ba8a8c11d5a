/-! The game's others: all in one row (the class), person by person (the reference). -/
/-- an int that may wrap -/
def wr (x : Int) : Int := (x + 2147483648) % 4294967296 - 2147483648
def ow (x : Int) : Int := x / 8192
def om (x : Int) : Int := x % 8192
/-- how many of the first i others are p's -/
def rk (h : Nat → Int) (p : Int) : Nat → Int
  | 0 => 0
  | i + 1 => rk h p i + (if ow (h i) = p then 1 else 0)
theorem rk_s {h : Nat → Int} {p : Int} {i : Nat} : rk h p (i + 1) = rk h p i + (if ow (h i) = p then 1 else 0) := rfl
theorem rk_nn {h : Nat → Int} {p : Int} : ∀ i : Nat, 0 ≤ rk h p i ∧ rk h p i ≤ i
  | 0 => ⟨Int.le_refl 0, Int.le_refl 0⟩
  | i + 1 => by
    have z := rk_nn (h := h) (p := p) i
    rw [rk_s]
    split <;> omega
theorem rk_mono {h : Nat → Int} {p : Int} {i : Nat} : ∀ d : Nat, rk h p i ≤ rk h p (i + d)
  | 0 => Int.le_refl _
  | d + 1 => by
    have z := rk_mono (h := h) (p := p) (i := i) d
    show rk h p i ≤ rk h p (i + d + 1)
    rw [rk_s]
    split <;> omega
theorem rk_le {h : Nat → Int} {p : Int} {i j : Nat} (hij : i ≤ j) : rk h p i ≤ rk h p j := by
  have z := rk_mono (h := h) (p := p) (i := i) (j - i)
  rw [show i + (j - i) = j from by omega] at z
  exact z
theorem rk_lt {h : Nat → Int} {p : Int} {i j : Nat} (hij : i < j) (hi : ow (h i) = p) : rk h p i < rk h p j := by
  have z := rk_le (h := h) (p := p) (i := i + 1) (j := j) (by omega)
  rw [rk_s, if_pos hi] at z
  omega
theorem rk_c {h h' : Nat → Int} {p : Int} : ∀ n : Nat, (∀ i : Nat, i < n → h' i = h i) → rk h' p n = rk h p n
  | 0, _ => rfl
  | n + 1, e => by rw [rk_s, rk_s, rk_c n (fun i hi => e i (by omega)), e n (by omega)]
/-- each rank is one's -/
theorem rk_sur {h : Nat → Int} {p : Int} : ∀ (n : Nat) (r : Int), 0 ≤ r → r < rk h p n → ∃ i : Nat, i < n ∧ ow (h i) = p ∧ rk h p i = r
  | 0, r, h0, h1 => by
    have h1 : r < 0 := h1
    omega
  | n + 1, r, h0, h1 => by
    by_cases c : r < rk h p n
    · obtain ⟨i, a, b⟩ := rk_sur n r h0 c
      exact ⟨i, by omega, b⟩
    · rw [rk_s] at h1
      by_cases e : ow (h n) = p
      · rw [if_pos e] at h1
        exact ⟨n, by omega, e, by omega⟩
      · rw [if_neg e] at h1; omega
/-- an other is taken out at q -/
def cut (h : Nat → Int) (q : Nat) : Nat → Int := fun i => if i < q then h i else h (i + 1)
theorem cut_lo {h : Nat → Int} {q i : Nat} (hi : i < q) : cut h q i = h i := if_pos hi
theorem cut_hi {h : Nat → Int} {q i : Nat} (hi : q ≤ i) : cut h q i = h (i + 1) := if_neg (by omega)
theorem rk_cut_lo {h : Nat → Int} {p : Int} {q : Nat} {i : Nat} (hi : i ≤ q) : rk (cut h q) p i = rk h p i := rk_c i (fun j hj => cut_lo (by omega))
theorem rk_cut_hi {h : Nat → Int} {p : Int} {q : Nat} : ∀ d : Nat, rk (cut h q) p (q + d) = rk h p (q + d + 1) - (if ow (h q) = p then 1 else 0)
  | 0 => by
    rw [show q + 0 = q from rfl, rk_cut_lo (Nat.le_refl q), rk_s]
    omega
  | d + 1 => by
    show rk (cut h q) p (q + d + 1) = rk h p (q + d + 1 + 1) - _
    rw [rk_s, rk_cut_hi d, cut_hi (by omega), rk_s (i := q + d + 1)]
    omega
theorem rk_cut {h : Nat → Int} {p : Int} {q i : Nat} (hi : q ≤ i) : rk (cut h q) p i = rk h p (i + 1) - (if ow (h q) = p then 1 else 0) := by
  have z := rk_cut_hi (h := h) (p := p) (q := q) (i - q)
  rw [show q + (i - q) = i from by omega] at z
  exact z
/-- the row of all others against the rows by persons -/
def OTR (h : Nat → Int) (n : Int) (f : Nat → Int) : Prop := 0 ≤ n ∧ (∀ p : Nat, p < 6 → rk h p n.toNat = f (229 + p)) ∧ ∀ i : Nat, (i : Int) < n → ∃ p : Nat, p < 6 ∧ ow (h i) = p ∧ om (h i) = f (235 + 52 * p + (rk h p i).toNat)
/-- the reference's steps on its row -/
def addsF (f : Nat → Int) (k : Nat) (m : Int) : Nat → Int := up (up f (235 + 52 * k + (f (229 + k)).toNat) m) (229 + k) (f (229 + k) + 1)
/-- the i-th other of k is known to be of kind -/
def takesF (f : Nat → Int) (k i : Nat) : Nat → Int := fun j => if j = 229 + k then f j - 1 else if 235 + 52 * k + i ≤ j ∧ (j : Int) < 235 + 52 * k + (f (229 + k) - 1) then f (j + 1) else f j
theorem addsF_o {f : Nat → Int} {k : Nat} {m : Int} {j : Nat} (h1 : j ≠ 229 + k) (h2 : j ≠ 235 + 52 * k + (f (229 + k)).toNat) : addsF f k m j = f j := by
  unfold addsF
  rw [up_n h1, up_n h2]
theorem addsF_n {f : Nat → Int} {k : Nat} {m : Int} : addsF f k m (229 + k) = f (229 + k) + 1 := up_s
theorem addsF_m {f : Nat → Int} {k : Nat} {m : Int} (hk : k < 6) : addsF f k m (235 + 52 * k + (f (229 + k)).toNat) = m := by
  unfold addsF
  rw [up_n (by omega), up_s]
theorem ow_p {p : Nat} {m : Int} (h0 : 0 ≤ m) (h1 : m < 8192) : ow (8192 * p + m) = p ∧ om (8192 * p + m) = m := by
  unfold ow om
  omega
theorem OTR.add {h f : Nat → Int} {n : Int} {p : Nat} (H : OTR h n f) (hp : p < 6) (h51 : 0 ≤ f (229 + p) ∧ f (229 + p) ≤ 51) (h52 : ∀ q : Nat, q < 6 → f (229 + q) ≤ 52) : OTR (up h n.toNat (8192 * p)) (n + 1) (addsF f p 0) := by
  obtain ⟨h0, h1, h2⟩ := H
  have ho : ow (8192 * (p : Int)) = p ∧ om (8192 * (p : Int)) = 0 := by
    have z := ow_p (p := p) (m := 0) (by decide) (by decide)
    rw [show 8192 * (p : Int) + 0 = 8192 * (p : Int) from by omega] at z
    exact z
  have hc : ∀ (q : Int) (i : Nat), i ≤ n.toNat → rk (up h n.toNat (8192 * p)) q i = rk h q i := fun q i hi => rk_c i (fun j hj => up_n (by omega))
  refine ⟨by omega, fun q hq => ?_, fun i hi => ?_⟩
  · rw [show (n + 1).toNat = n.toNat + 1 from by omega, rk_s, hc q _ (Nat.le_refl _), up_s, ho.1, h1 q hq]
    by_cases e : q = p
    · subst e; rw [if_pos rfl, addsF_n]
    · rw [if_neg (by omega), addsF_o (by omega) (by omega)]; omega
  · by_cases e : i = n.toNat
    · subst e
      refine ⟨p, hp, by rw [up_s]; exact ho.1, ?_⟩
      rw [up_s, ho.2, hc p _ (Nat.le_refl _), h1 p hp, addsF_m hp]
    · obtain ⟨q, hq, a, b⟩ := h2 i (by omega)
      refine ⟨q, hq, by rw [up_n e]; exact a, ?_⟩
      have r1 := rk_lt (h := h) (p := q) (i := i) (j := n.toNat) (by omega) a
      have r2 := (rk_nn (h := h) (p := q) i).1
      rw [h1 q hq] at r1
      have r3 := h52 q hq
      rw [up_n e, hc q i (by omega), b, addsF_o (by omega) ?_]
      intro z
      by_cases e2 : q = p
      · subst e2; omega
      · omega
theorem takesF_n {f : Nat → Int} {k i : Nat} : takesF f k i (229 + k) = f (229 + k) - 1 := if_pos rfl
theorem takesF_s {f : Nat → Int} {k i r : Nat} (hk : k < 6) (h1 : i ≤ r) (h2 : (r : Int) < f (229 + k) - 1) : takesF f k i (235 + 52 * k + r) = f (235 + 52 * k + r + 1) := by
  unfold takesF
  rw [if_neg (by omega), if_pos ⟨by omega, by omega⟩]
theorem takesF_o {f : Nat → Int} {k i j : Nat} (h1 : j ≠ 229 + k) (h2 : j < 235 + 52 * k + i ∨ 235 + 52 * k + (f (229 + k) - 1) ≤ j) : takesF f k i j = f j := by
  unfold takesF
  rw [if_neg h1, if_neg (by omega)]
theorem OTR.take {h f : Nat → Int} {n : Int} {p q : Nat} (H : OTR h n f) (hp : p < 6) (hq : (q : Int) < n) (ho : ow (h q) = p) (h52 : ∀ q : Nat, q < 6 → f (229 + q) ≤ 52) : OTR (cut h q) (n - 1) (takesF f p (rk h p q).toNat) := by
  obtain ⟨h0, h1, h2⟩ := H
  have h5p := h52 p hp
  have hr := (rk_nn (h := h) (p := p) q).1
  have hr2 := rk_lt (h := h) (p := p) (i := q) (j := n.toNat) (by omega) ho
  rw [h1 p hp] at hr2
  refine ⟨by omega, fun k hk => ?_, fun i hi => ?_⟩
  · have z := rk_cut (h := h) (p := k) (q := q) (i := (n - 1).toNat) (by omega)
    rw [show (n - 1).toNat + 1 = n.toNat from by omega, h1 k hk, ho] at z
    rw [z]
    by_cases e : k = p
    · subst e; rw [if_pos rfl, takesF_n]
    · rw [if_neg (by omega), takesF_o (by omega) (by omega)]; omega
  · by_cases c : i < q
    · obtain ⟨k, hk, a, b⟩ := h2 i (by omega)
      have r2 := (rk_nn (h := h) (p := k) i).1
      have r3 := h52 k hk
      have r4 := rk_lt (h := h) (p := k) (i := i) (j := n.toNat) (by omega) a
      rw [h1 k hk] at r4
      refine ⟨k, hk, by rw [cut_lo c]; exact a, ?_⟩
      rw [cut_lo c, rk_cut_lo (by omega), b, takesF_o (by omega) ?_]
      by_cases e : k = p
      · subst e
        have r5 := rk_lt (h := h) (p := k) (i := i) (j := q) c a
        omega
      · omega
    · obtain ⟨k, hk, a, b⟩ := h2 (i + 1) (by omega)
      have r1 := rk_cut (h := h) (p := k) (q := q) (i := i) (by omega)
      have r2 := (rk_nn (h := h) (p := k) (i + 1)).1
      have r3 := h52 k hk
      have r4 := rk_lt (h := h) (p := k) (i := i + 1) (j := n.toNat) (by omega) a
      rw [h1 k hk] at r4
      refine ⟨k, hk, by rw [cut_hi (by omega)]; exact a, ?_⟩
      rw [cut_hi (by omega), r1, b, ho]
      by_cases e : k = p
      · subst e
        have r5 := rk_lt (h := h) (p := k) (i := q) (j := i + 1) (by omega) ho
        rw [if_pos rfl, takesF_s hk (by omega) (by omega)]
        congr 1
        omega
      · rw [if_neg (by omega), takesF_o (by omega) (by omega)]
        congr 2
        omega
/-- the first that fits, by the row of all and by the person's own -/
theorem OTR.fit {h f : Nat → Int} {n : Int} {p q : Nat} {B : Int → Prop} (H : OTR h n f) (hp : p < 6) (hq : (q : Int) < n) (ho : ow (h q) = p) (hB : B (om (h q))) (hf : ∀ i : Nat, i < q → ow (h i) = p → ¬ B (om (h i))) : B (f (235 + 52 * p + (rk h p q).toNat)) ∧ ∀ r : Nat, r < (rk h p q).toNat → ¬ B (f (235 + 52 * p + r)) := by
  obtain ⟨h0, h1, h2⟩ := H
  have at_ : ∀ i : Nat, (i : Int) < n → ow (h i) = p → om (h i) = f (235 + 52 * p + (rk h p i).toNat) := fun i hi a => by
    obtain ⟨k, hk, b, c⟩ := h2 i hi
    have e : k = p := by rw [a] at b; omega
    subst e; exact c
  refine ⟨by rw [← at_ q hq ho]; exact hB, fun r hr => ?_⟩
  obtain ⟨i, a, b, c⟩ := rk_sur (h := h) (p := p) q r (by omega) (by omega)
  have z := hf i a b
  rw [at_ i (by omega) b, c] at z
  exact z
/-- no other fits -/
theorem OTR.nofit {h f : Nat → Int} {n : Int} {p : Nat} {B : Int → Prop} (H : OTR h n f) (hp : p < 6) (hf : ∀ i : Nat, (i : Int) < n → ow (h i) = p → ¬ B (om (h i))) : ∀ r : Nat, (r : Int) < f (229 + p) → ¬ B (f (235 + 52 * p + r)) := by
  obtain ⟨h0, h1, h2⟩ := H
  intro r hr
  obtain ⟨i, a, b, c⟩ := rk_sur (h := h) (p := p) n.toNat r (by omega) (by rw [h1 p hp]; exact hr)
  obtain ⟨k, hk, d, e⟩ := h2 i (by omega)
  have z := hf i (by omega) b
  have e3 : k = p := by rw [b] at d; omega
  subst e3
  rw [e, c] at z
  exact z
/-- every other of one person gets another mask -/
def barsF (f : Nat → Int) (k : Nat) (g : Int → Int) : Nat → Int := fun j => if 235 + 52 * k ≤ j ∧ (j : Int) < 235 + 52 * k + f (229 + k) then g (f j) else f j
theorem OTR.bar {h h' f : Nat → Int} {n : Int} {p : Nat} {g : Int → Int} (H : OTR h n f) (hp : p < 6) (h52 : ∀ q : Nat, q < 6 → f (229 + q) ≤ 52) (hg : ∀ i : Nat, (i : Int) < n → ow (h' i) = ow (h i) ∧ om (h' i) = if ow (h i) = p then g (om (h i)) else om (h i)) : OTR h' n (barsF f p g) := by
  obtain ⟨h0, h1, h2⟩ := H
  have h5p := h52 p hp
  have hc : ∀ (q : Int) (i : Nat), (i : Int) ≤ n → rk h' q i = rk h q i := by
    intro q i
    induction i with
    | zero => intro _; rfl
    | succ i ih =>
      intro hi
      rw [rk_s, rk_s, ih (by omega), (hg i (by omega)).1]
  have hn : ∀ q : Nat, q < 6 → barsF f p g (229 + q) = f (229 + q) := fun q hq => by
    unfold barsF
    rw [if_neg (by omega)]
  refine ⟨h0, fun q hq => by rw [hc q _ (by omega), hn q hq]; exact h1 q hq, fun i hi => ?_⟩
  obtain ⟨q, hq, a, b⟩ := h2 i hi
  have r2 := (rk_nn (h := h) (p := q) i).1
  have r3 := h52 q hq
  have r4 := rk_lt (h := h) (p := q) (i := i) (j := n.toNat) (by omega) a
  rw [h1 q hq] at r4
  refine ⟨q, hq, by rw [(hg i hi).1]; exact a, ?_⟩
  rw [(hg i hi).2, hc q i (by omega), a]
  unfold barsF
  by_cases e : q = p
  · subst e
    rw [if_pos rfl, if_pos ⟨by omega, by omega⟩, b]
  · rw [if_neg (by omega), if_neg (by omega)]; exact b

